theorem dX0_init_0 : decode cX0_init 0 = .ok (.aload_n 0, 1) := by decide +kernel
theorem dX0_init_1 : decode cX0_init 1 = .ok (.invokespecial 1, 3) := by decide +kernel
theorem dX0_init_4 : decode cX0_init 4 = .ok (.aload_n 0, 1) := by decide +kernel
theorem dX0_init_5 : decode cX0_init 5 = .ok (.iload_n 1, 1) := by decide +kernel
theorem dX0_init_6 : decode cX0_init 6 = .ok (.putfield 7, 3) := by decide +kernel
theorem dX0_init_9 : decode cX0_init 9 = .ok (.aload_n 0, 1) := by decide +kernel
theorem dX0_init_10 : decode cX0_init 10 = .ok (.iload_n 2, 1) := by decide +kernel
theorem dX0_init_11 : decode cX0_init 11 = .ok (.putfield 13, 3) := by decide +kernel
theorem dX0_init_14 : decode cX0_init 14 = .ok (.aload_n 0, 1) := by decide +kernel
theorem dX0_init_15 : decode cX0_init 15 = .ok (.iload_n 3, 1) := by decide +kernel
theorem dX0_init_16 : decode cX0_init 16 = .ok (.putfield 16, 3) := by decide +kernel
theorem dX0_init_19 : decode cX0_init 19 = .ok (.aload_n 0, 1) := by decide +kernel
theorem dX0_init_20 : decode cX0_init 20 = .ok (.iload 4, 2) := by decide +kernel
theorem dX0_init_22 : decode cX0_init 22 = .ok (.putfield 19, 3) := by decide +kernel
theorem dX0_init_25 : decode cX0_init 25 = .ok (.aload_n 0, 1) := by decide +kernel
theorem dX0_init_26 : decode cX0_init 26 = .ok (.iload 5, 2) := by decide +kernel
theorem dX0_init_28 : decode cX0_init 28 = .ok (.putfield 22, 3) := by decide +kernel
theorem dX0_init_31 : decode cX0_init 31 = .ok (.aload_n 0, 1) := by decide +kernel
theorem dX0_init_32 : decode cX0_init 32 = .ok (.iload 6, 2) := by decide +kernel
theorem dX0_init_34 : decode cX0_init 34 = .ok (.putfield 26, 3) := by decide +kernel
theorem dX0_init_37 : decode cX0_init 37 = .ok (.return_, 1) := by decide +kernel
theorem dX1_init_0 : decode cX1_init 0 = .ok (.aload_n 0, 1) := by decide +kernel
theorem dX1_init_1 : decode cX1_init 1 = .ok (.invokespecial 3, 3) := by decide +kernel
theorem dX1_init_4 : decode cX1_init 4 = .ok (.aload_n 0, 1) := by decide +kernel
theorem dX1_init_5 : decode cX1_init 5 = .ok (.iconst 1, 1) := by decide +kernel
theorem dX1_init_6 : decode cX1_init 6 = .ok (.putfield 9, 3) := by decide +kernel
theorem dX1_init_9 : decode cX1_init 9 = .ok (.aload_n 0, 1) := by decide +kernel
theorem dX1_init_10 : decode cX1_init 10 = .ok (.iload_n 1, 1) := by decide +kernel
theorem dX1_init_11 : decode cX1_init 11 = .ok (.putfield 15, 3) := by decide +kernel
theorem dX1_init_14 : decode cX1_init 14 = .ok (.aload_n 0, 1) := by decide +kernel
theorem dX1_init_15 : decode cX1_init 15 = .ok (.iload_n 2, 1) := by decide +kernel
theorem dX1_init_16 : decode cX1_init 16 = .ok (.putfield 18, 3) := by decide +kernel
theorem dX1_init_19 : decode cX1_init 19 = .ok (.return_, 1) := by decide +kernel
theorem dX1_isOpenTo_0 : decode cX1_isOpenTo 0 = .ok (.aload_n 0, 1) := by decide +kernel
theorem dX1_isOpenTo_1 : decode cX1_isOpenTo 1 = .ok (.getfield 15, 3) := by decide +kernel
theorem dX1_isOpenTo_4 : decode cX1_isOpenTo 4 = .ok (.iload_n 1, 1) := by decide +kernel
theorem dX1_isOpenTo_5 : decode cX1_isOpenTo 5 = .ok (.if_icmp .ne 16, 3) := by decide +kernel
theorem dX1_isOpenTo_8 : decode cX1_isOpenTo 8 = .ok (.aload_n 0, 1) := by decide +kernel
theorem dX1_isOpenTo_9 : decode cX1_isOpenTo 9 = .ok (.getfield 9, 3) := by decide +kernel
theorem dX1_isOpenTo_12 : decode cX1_isOpenTo 12 = .ok (.bipush 6, 2) := by decide +kernel
theorem dX1_isOpenTo_14 : decode cX1_isOpenTo 14 = .ok (.if_icmp .ge 7, 3) := by decide +kernel
theorem dX1_isOpenTo_17 : decode cX1_isOpenTo 17 = .ok (.iconst 1, 1) := by decide +kernel
theorem dX1_isOpenTo_18 : decode cX1_isOpenTo 18 = .ok (.goto 4, 3) := by decide +kernel
theorem dX1_isOpenTo_21 : decode cX1_isOpenTo 21 = .ok (.iconst 0, 1) := by decide +kernel
theorem dX1_isOpenTo_22 : decode cX1_isOpenTo 22 = .ok (.ireturn, 1) := by decide +kernel
theorem dX2_init_0 : decode cX2_init 0 = .ok (.aload_n 0, 1) := by decide +kernel
theorem dX2_init_1 : decode cX2_init 1 = .ok (.invokespecial 1, 3) := by decide +kernel
theorem dX2_init_4 : decode cX2_init 4 = .ok (.aload_n 0, 1) := by decide +kernel
theorem dX2_init_5 : decode cX2_init 5 = .ok (.iload_n 1, 1) := by decide +kernel
theorem dX2_init_6 : decode cX2_init 6 = .ok (.putfield 7, 3) := by decide +kernel
theorem dX2_init_9 : decode cX2_init 9 = .ok (.return_, 1) := by decide +kernel
theorem dX2_beginYear_0 : decode cX2_beginYear 0 = .ok (.aload_n 0, 1) := by decide +kernel
theorem dX2_beginYear_1 : decode cX2_beginYear 1 = .ok (.dup, 1) := by decide +kernel
theorem dX2_beginYear_2 : decode cX2_beginYear 2 = .ok (.getfield 13, 3) := by decide +kernel
theorem dX2_beginYear_5 : decode cX2_beginYear 5 = .ok (.aload_n 0, 1) := by decide +kernel
theorem dX2_beginYear_6 : decode cX2_beginYear 6 = .ok (.getfield 7, 3) := by decide +kernel
theorem dX2_beginYear_9 : decode cX2_beginYear 9 = .ok (.aload_n 0, 1) := by decide +kernel
theorem dX2_beginYear_10 : decode cX2_beginYear 10 = .ok (.getfield 16, 3) := by decide +kernel
theorem dX2_beginYear_13 : decode cX2_beginYear 13 = .ok (.isub, 1) := by decide +kernel
theorem dX2_beginYear_14 : decode cX2_beginYear 14 = .ok (.iadd, 1) := by decide +kernel
theorem dX2_beginYear_15 : decode cX2_beginYear 15 = .ok (.putfield 13, 3) := by decide +kernel
theorem dX2_beginYear_18 : decode cX2_beginYear 18 = .ok (.aload_n 0, 1) := by decide +kernel
theorem dX2_beginYear_19 : decode cX2_beginYear 19 = .ok (.iconst 0, 1) := by decide +kernel
theorem dX2_beginYear_20 : decode cX2_beginYear 20 = .ok (.putfield 16, 3) := by decide +kernel
theorem dX2_beginYear_23 : decode cX2_beginYear 23 = .ok (.return_, 1) := by decide +kernel
theorem dX2_owesAndGives_0 : decode cX2_owesAndGives 0 = .ok (.aload_n 0, 1) := by decide +kernel
theorem dX2_owesAndGives_1 : decode cX2_owesAndGives 1 = .ok (.getfield 13, 3) := by decide +kernel
theorem dX2_owesAndGives_4 : decode cX2_owesAndGives 4 = .ok (.ifCond .le 15, 3) := by decide +kernel
theorem dX2_owesAndGives_7 : decode cX2_owesAndGives 7 = .ok (.aload_n 0, 1) := by decide +kernel
theorem dX2_owesAndGives_8 : decode cX2_owesAndGives 8 = .ok (.dup, 1) := by decide +kernel
theorem dX2_owesAndGives_9 : decode cX2_owesAndGives 9 = .ok (.getfield 13, 3) := by decide +kernel
theorem dX2_owesAndGives_12 : decode cX2_owesAndGives 12 = .ok (.iconst 1, 1) := by decide +kernel
theorem dX2_owesAndGives_13 : decode cX2_owesAndGives 13 = .ok (.isub, 1) := by decide +kernel
theorem dX2_owesAndGives_14 : decode cX2_owesAndGives 14 = .ok (.putfield 13, 3) := by decide +kernel
theorem dX2_owesAndGives_17 : decode cX2_owesAndGives 17 = .ok (.iconst 1, 1) := by decide +kernel
theorem dX2_owesAndGives_18 : decode cX2_owesAndGives 18 = .ok (.ireturn, 1) := by decide +kernel
theorem dX2_owesAndGives_19 : decode cX2_owesAndGives 19 = .ok (.aload_n 0, 1) := by decide +kernel
theorem dX2_owesAndGives_20 : decode cX2_owesAndGives 20 = .ok (.getfield 16, 3) := by decide +kernel
theorem dX2_owesAndGives_23 : decode cX2_owesAndGives 23 = .ok (.aload_n 0, 1) := by decide +kernel
theorem dX2_owesAndGives_24 : decode cX2_owesAndGives 24 = .ok (.getfield 7, 3) := by decide +kernel
theorem dX2_owesAndGives_27 : decode cX2_owesAndGives 27 = .ok (.if_icmp .ge 15, 3) := by decide +kernel
theorem dX2_owesAndGives_30 : decode cX2_owesAndGives 30 = .ok (.aload_n 0, 1) := by decide +kernel
theorem dX2_owesAndGives_31 : decode cX2_owesAndGives 31 = .ok (.dup, 1) := by decide +kernel
theorem dX2_owesAndGives_32 : decode cX2_owesAndGives 32 = .ok (.getfield 16, 3) := by decide +kernel
theorem dX2_owesAndGives_35 : decode cX2_owesAndGives 35 = .ok (.iconst 1, 1) := by decide +kernel
theorem dX2_owesAndGives_36 : decode cX2_owesAndGives 36 = .ok (.iadd, 1) := by decide +kernel
theorem dX2_owesAndGives_37 : decode cX2_owesAndGives 37 = .ok (.putfield 16, 3) := by decide +kernel
theorem dX2_owesAndGives_40 : decode cX2_owesAndGives 40 = .ok (.iconst 1, 1) := by decide +kernel
theorem dX2_owesAndGives_41 : decode cX2_owesAndGives 41 = .ok (.ireturn, 1) := by decide +kernel
theorem dX2_owesAndGives_42 : decode cX2_owesAndGives 42 = .ok (.iconst 0, 1) := by decide +kernel
theorem dX2_owesAndGives_43 : decode cX2_owesAndGives 43 = .ok (.ireturn, 1) := by decide +kernel
theorem dX3_init_0 : decode cX3_init 0 = .ok (.aload_n 0, 1) := by decide +kernel
theorem dX3_init_1 : decode cX3_init 1 = .ok (.invokespecial 3, 3) := by decide +kernel
theorem dX3_init_4 : decode cX3_init 4 = .ok (.aload_n 0, 1) := by decide +kernel
theorem dX3_init_5 : decode cX3_init 5 = .ok (.iload_n 1, 1) := by decide +kernel
theorem dX3_init_6 : decode cX3_init 6 = .ok (.putfield 9, 3) := by decide +kernel
theorem dX3_init_9 : decode cX3_init 9 = .ok (.return_, 1) := by decide +kernel
theorem dX3_isOpenTo_0 : decode cX3_isOpenTo 0 = .ok (.aload_n 0, 1) := by decide +kernel
theorem dX3_isOpenTo_1 : decode cX3_isOpenTo 1 = .ok (.getfield 9, 3) := by decide +kernel
theorem dX3_isOpenTo_4 : decode cX3_isOpenTo 4 = .ok (.iconst (-1), 1) := by decide +kernel
theorem dX3_isOpenTo_5 : decode cX3_isOpenTo 5 = .ok (.if_icmp .eq 11, 3) := by decide +kernel
theorem dX3_isOpenTo_8 : decode cX3_isOpenTo 8 = .ok (.aload_n 0, 1) := by decide +kernel
theorem dX3_isOpenTo_9 : decode cX3_isOpenTo 9 = .ok (.getfield 9, 3) := by decide +kernel
theorem dX3_isOpenTo_12 : decode cX3_isOpenTo 12 = .ok (.iload_n 1, 1) := by decide +kernel
theorem dX3_isOpenTo_13 : decode cX3_isOpenTo 13 = .ok (.if_icmp .ne 7, 3) := by decide +kernel
theorem dX3_isOpenTo_16 : decode cX3_isOpenTo 16 = .ok (.iconst 1, 1) := by decide +kernel
theorem dX3_isOpenTo_17 : decode cX3_isOpenTo 17 = .ok (.goto 4, 3) := by decide +kernel
theorem dX3_isOpenTo_20 : decode cX3_isOpenTo 20 = .ok (.iconst 0, 1) := by decide +kernel
theorem dX3_isOpenTo_21 : decode cX3_isOpenTo 21 = .ok (.ireturn, 1) := by decide +kernel
theorem dX4_init_0 : decode cX4_init 0 = .ok (.aload_n 0, 1) := by decide +kernel
theorem dX4_init_1 : decode cX4_init 1 = .ok (.invokespecial 3, 3) := by decide +kernel
theorem dX4_init_4 : decode cX4_init 4 = .ok (.aload_n 0, 1) := by decide +kernel
theorem dX4_init_5 : decode cX4_init 5 = .ok (.bipush 30, 2) := by decide +kernel
theorem dX4_init_7 : decode cX4_init 7 = .ok (.newarray .int, 2) := by decide +kernel
theorem dX4_init_9 : decode cX4_init 9 = .ok (.putfield 9, 3) := by decide +kernel
theorem dX4_init_12 : decode cX4_init 12 = .ok (.aload_n 0, 1) := by decide +kernel
theorem dX4_init_13 : decode cX4_init 13 = .ok (.bipush 30, 2) := by decide +kernel
theorem dX4_init_15 : decode cX4_init 15 = .ok (.newarray .int, 2) := by decide +kernel
theorem dX4_init_17 : decode cX4_init 17 = .ok (.putfield 15, 3) := by decide +kernel
theorem dX4_init_20 : decode cX4_init 20 = .ok (.aload_n 0, 1) := by decide +kernel
theorem dX4_init_21 : decode cX4_init 21 = .ok (.bipush 30, 2) := by decide +kernel
theorem dX4_init_23 : decode cX4_init 23 = .ok (.newarray .int, 2) := by decide +kernel
theorem dX4_init_25 : decode cX4_init 25 = .ok (.putfield 18, 3) := by decide +kernel
theorem dX4_init_28 : decode cX4_init 28 = .ok (.aload_n 0, 1) := by decide +kernel
theorem dX4_init_29 : decode cX4_init 29 = .ok (.sipush 1891, 3) := by decide +kernel
theorem dX4_init_32 : decode cX4_init 32 = .ok (.newarray .int, 2) := by decide +kernel
theorem dX4_init_34 : decode cX4_init 34 = .ok (.putfield 21, 3) := by decide +kernel
theorem dX4_init_37 : decode cX4_init 37 = .ok (.aload_n 0, 1) := by decide +kernel
theorem dX4_init_38 : decode cX4_init 38 = .ok (.iconst 4, 1) := by decide +kernel
theorem dX4_init_39 : decode cX4_init 39 = .ok (.newarray .int, 2) := by decide +kernel
theorem dX4_init_41 : decode cX4_init 41 = .ok (.putfield 24, 3) := by decide +kernel
theorem dX4_init_44 : decode cX4_init 44 = .ok (.aload_n 0, 1) := by decide +kernel
theorem dX4_init_45 : decode cX4_init 45 = .ok (.iconst 4, 1) := by decide +kernel
theorem dX4_init_46 : decode cX4_init 46 = .ok (.newarray .int, 2) := by decide +kernel
theorem dX4_init_48 : decode cX4_init 48 = .ok (.putfield 27, 3) := by decide +kernel
theorem dX4_init_51 : decode cX4_init 51 = .ok (.return_, 1) := by decide +kernel
theorem dX4_clear_0 : decode cX4_clear 0 = .ok (.aload_n 0, 1) := by decide +kernel
theorem dX4_clear_1 : decode cX4_clear 1 = .ok (.iconst 0, 1) := by decide +kernel
theorem dX4_clear_2 : decode cX4_clear 2 = .ok (.putfield 30, 3) := by decide +kernel
theorem dX4_clear_5 : decode cX4_clear 5 = .ok (.return_, 1) := by decide +kernel
theorem dX4_hasRoom_0 : decode cX4_hasRoom 0 = .ok (.aload_n 0, 1) := by decide +kernel
theorem dX4_hasRoom_1 : decode cX4_hasRoom 1 = .ok (.getfield 30, 3) := by decide +kernel
theorem dX4_hasRoom_4 : decode cX4_hasRoom 4 = .ok (.bipush 30, 2) := by decide +kernel
theorem dX4_hasRoom_6 : decode cX4_hasRoom 6 = .ok (.if_icmp .ge 7, 3) := by decide +kernel
theorem dX4_hasRoom_9 : decode cX4_hasRoom 9 = .ok (.iconst 1, 1) := by decide +kernel
theorem dX4_hasRoom_10 : decode cX4_hasRoom 10 = .ok (.goto 4, 3) := by decide +kernel
theorem dX4_hasRoom_13 : decode cX4_hasRoom 13 = .ok (.iconst 0, 1) := by decide +kernel
theorem dX4_hasRoom_14 : decode cX4_hasRoom 14 = .ok (.ireturn, 1) := by decide +kernel
theorem dX4_take_0 : decode cX4_take 0 = .ok (.aload_n 0, 1) := by decide +kernel
theorem dX4_take_1 : decode cX4_take 1 = .ok (.getfield 30, 3) := by decide +kernel
theorem dX4_take_4 : decode cX4_take 4 = .ok (.bipush 30, 2) := by decide +kernel
theorem dX4_take_6 : decode cX4_take 6 = .ok (.if_icmp .ge 43, 3) := by decide +kernel
theorem dX4_take_9 : decode cX4_take 9 = .ok (.aload_n 0, 1) := by decide +kernel
theorem dX4_take_10 : decode cX4_take 10 = .ok (.getfield 9, 3) := by decide +kernel
theorem dX4_take_13 : decode cX4_take 13 = .ok (.aload_n 0, 1) := by decide +kernel
theorem dX4_take_14 : decode cX4_take 14 = .ok (.getfield 30, 3) := by decide +kernel
theorem dX4_take_17 : decode cX4_take 17 = .ok (.iload_n 1, 1) := by decide +kernel
theorem dX4_take_18 : decode cX4_take 18 = .ok (.iastore, 1) := by decide +kernel
theorem dX4_take_19 : decode cX4_take 19 = .ok (.aload_n 0, 1) := by decide +kernel
theorem dX4_take_20 : decode cX4_take 20 = .ok (.getfield 15, 3) := by decide +kernel
theorem dX4_take_23 : decode cX4_take 23 = .ok (.aload_n 0, 1) := by decide +kernel
theorem dX4_take_24 : decode cX4_take 24 = .ok (.getfield 30, 3) := by decide +kernel
theorem dX4_take_27 : decode cX4_take 27 = .ok (.iload_n 2, 1) := by decide +kernel
theorem dX4_take_28 : decode cX4_take 28 = .ok (.iastore, 1) := by decide +kernel
theorem dX4_take_29 : decode cX4_take 29 = .ok (.aload_n 0, 1) := by decide +kernel
theorem dX4_take_30 : decode cX4_take 30 = .ok (.getfield 18, 3) := by decide +kernel
theorem dX4_take_33 : decode cX4_take 33 = .ok (.aload_n 0, 1) := by decide +kernel
theorem dX4_take_34 : decode cX4_take 34 = .ok (.getfield 30, 3) := by decide +kernel
theorem dX4_take_37 : decode cX4_take 37 = .ok (.iload_n 3, 1) := by decide +kernel
theorem dX4_take_38 : decode cX4_take 38 = .ok (.iastore, 1) := by decide +kernel
theorem dX4_take_39 : decode cX4_take 39 = .ok (.aload_n 0, 1) := by decide +kernel
theorem dX4_take_40 : decode cX4_take 40 = .ok (.dup, 1) := by decide +kernel
theorem dX4_take_41 : decode cX4_take 41 = .ok (.getfield 30, 3) := by decide +kernel
theorem dX4_take_44 : decode cX4_take 44 = .ok (.iconst 1, 1) := by decide +kernel
theorem dX4_take_45 : decode cX4_take 45 = .ok (.iadd, 1) := by decide +kernel
theorem dX4_take_46 : decode cX4_take 46 = .ok (.putfield 30, 3) := by decide +kernel
theorem dX4_take_49 : decode cX4_take 49 = .ok (.return_, 1) := by decide +kernel
theorem dX4_sizeOfBest_0 : decode cX4_sizeOfBest 0 = .ok (.aload_n 0, 1) := by decide +kernel
theorem dX4_sizeOfBest_1 : decode cX4_sizeOfBest 1 = .ok (.invokevirtual 34, 3) := by decide +kernel
theorem dX4_sizeOfBest_4 : decode cX4_sizeOfBest 4 = .ok (.iconst 1, 1) := by decide +kernel
theorem dX4_sizeOfBest_5 : decode cX4_sizeOfBest 5 = .ok (.istore_n 3, 1) := by decide +kernel
theorem dX4_sizeOfBest_6 : decode cX4_sizeOfBest 6 = .ok (.iload_n 3, 1) := by decide +kernel
theorem dX4_sizeOfBest_7 : decode cX4_sizeOfBest 7 = .ok (.iconst 4, 1) := by decide +kernel
theorem dX4_sizeOfBest_8 : decode cX4_sizeOfBest 8 = .ok (.if_icmp .gt 41, 3) := by decide +kernel
theorem dX4_sizeOfBest_11 : decode cX4_sizeOfBest 11 = .ok (.aload_n 0, 1) := by decide +kernel
theorem dX4_sizeOfBest_12 : decode cX4_sizeOfBest 12 = .ok (.iconst (-1), 1) := by decide +kernel
theorem dX4_sizeOfBest_13 : decode cX4_sizeOfBest 13 = .ok (.putfield 37, 3) := by decide +kernel
theorem dX4_sizeOfBest_16 : decode cX4_sizeOfBest 16 = .ok (.aload_n 0, 1) := by decide +kernel
theorem dX4_sizeOfBest_17 : decode cX4_sizeOfBest 17 = .ok (.iconst 0, 1) := by decide +kernel
theorem dX4_sizeOfBest_18 : decode cX4_sizeOfBest 18 = .ok (.iload_n 3, 1) := by decide +kernel
theorem dX4_sizeOfBest_19 : decode cX4_sizeOfBest 19 = .ok (.iconst 1, 1) := by decide +kernel
theorem dX4_sizeOfBest_20 : decode cX4_sizeOfBest 20 = .ok (.isub, 1) := by decide +kernel
theorem dX4_sizeOfBest_21 : decode cX4_sizeOfBest 21 = .ok (.iconst 0, 1) := by decide +kernel
theorem dX4_sizeOfBest_22 : decode cX4_sizeOfBest 22 = .ok (.iload_n 1, 1) := by decide +kernel
theorem dX4_sizeOfBest_23 : decode cX4_sizeOfBest 23 = .ok (.iload_n 2, 1) := by decide +kernel
theorem dX4_sizeOfBest_24 : decode cX4_sizeOfBest 24 = .ok (.iload_n 3, 1) := by decide +kernel
theorem dX4_sizeOfBest_25 : decode cX4_sizeOfBest 25 = .ok (.iconst 1, 1) := by decide +kernel
theorem dX4_sizeOfBest_26 : decode cX4_sizeOfBest 26 = .ok (.isub, 1) := by decide +kernel
theorem dX4_sizeOfBest_27 : decode cX4_sizeOfBest 27 = .ok (.imul, 1) := by decide +kernel
theorem dX4_sizeOfBest_28 : decode cX4_sizeOfBest 28 = .ok (.iadd, 1) := by decide +kernel
theorem dX4_sizeOfBest_29 : decode cX4_sizeOfBest 29 = .ok (.iconst 0, 1) := by decide +kernel
theorem dX4_sizeOfBest_30 : decode cX4_sizeOfBest 30 = .ok (.invokevirtual 40, 3) := by decide +kernel
theorem dX4_sizeOfBest_33 : decode cX4_sizeOfBest 33 = .ok (.aload_n 0, 1) := by decide +kernel
theorem dX4_sizeOfBest_34 : decode cX4_sizeOfBest 34 = .ok (.getfield 37, 3) := by decide +kernel
theorem dX4_sizeOfBest_37 : decode cX4_sizeOfBest 37 = .ok (.iconst (-1), 1) := by decide +kernel
theorem dX4_sizeOfBest_38 : decode cX4_sizeOfBest 38 = .ok (.if_icmp .eq 5, 3) := by decide +kernel
theorem dX4_sizeOfBest_41 : decode cX4_sizeOfBest 41 = .ok (.iload_n 3, 1) := by decide +kernel
theorem dX4_sizeOfBest_42 : decode cX4_sizeOfBest 42 = .ok (.ireturn, 1) := by decide +kernel
theorem dX4_sizeOfBest_43 : decode cX4_sizeOfBest 43 = .ok (.iinc 3 1, 3) := by decide +kernel
theorem dX4_sizeOfBest_46 : decode cX4_sizeOfBest 46 = .ok (.goto (-40), 3) := by decide +kernel
theorem dX4_sizeOfBest_49 : decode cX4_sizeOfBest 49 = .ok (.iconst 0, 1) := by decide +kernel
theorem dX4_sizeOfBest_50 : decode cX4_sizeOfBest 50 = .ok (.ireturn, 1) := by decide +kernel
theorem dX4_partOfBest_0 : decode cX4_partOfBest 0 = .ok (.iload_n 1, 1) := by decide +kernel
theorem dX4_partOfBest_1 : decode cX4_partOfBest 1 = .ok (.ifCond .lt 8, 3) := by decide +kernel
theorem dX4_partOfBest_4 : decode cX4_partOfBest 4 = .ok (.iload_n 1, 1) := by decide +kernel
theorem dX4_partOfBest_5 : decode cX4_partOfBest 5 = .ok (.iconst 4, 1) := by decide +kernel
theorem dX4_partOfBest_6 : decode cX4_partOfBest 6 = .ok (.if_icmp .lt 5, 3) := by decide +kernel
theorem dX4_partOfBest_9 : decode cX4_partOfBest 9 = .ok (.iconst (-1), 1) := by decide +kernel
theorem dX4_partOfBest_10 : decode cX4_partOfBest 10 = .ok (.ireturn, 1) := by decide +kernel
theorem dX4_partOfBest_11 : decode cX4_partOfBest 11 = .ok (.aload_n 0, 1) := by decide +kernel
theorem dX4_partOfBest_12 : decode cX4_partOfBest 12 = .ok (.getfield 27, 3) := by decide +kernel
theorem dX4_partOfBest_15 : decode cX4_partOfBest 15 = .ok (.iload_n 1, 1) := by decide +kernel
theorem dX4_partOfBest_16 : decode cX4_partOfBest 16 = .ok (.iaload, 1) := by decide +kernel
theorem dX4_partOfBest_17 : decode cX4_partOfBest 17 = .ok (.istore_n 2, 1) := by decide +kernel
theorem dX4_partOfBest_18 : decode cX4_partOfBest 18 = .ok (.iload_n 2, 1) := by decide +kernel
theorem dX4_partOfBest_19 : decode cX4_partOfBest 19 = .ok (.ifCond .lt 20, 3) := by decide +kernel
theorem dX4_partOfBest_22 : decode cX4_partOfBest 22 = .ok (.iload_n 2, 1) := by decide +kernel
theorem dX4_partOfBest_23 : decode cX4_partOfBest 23 = .ok (.aload_n 0, 1) := by decide +kernel
theorem dX4_partOfBest_24 : decode cX4_partOfBest 24 = .ok (.getfield 30, 3) := by decide +kernel
theorem dX4_partOfBest_27 : decode cX4_partOfBest 27 = .ok (.if_icmp .ge 12, 3) := by decide +kernel
theorem dX4_partOfBest_30 : decode cX4_partOfBest 30 = .ok (.aload_n 0, 1) := by decide +kernel
theorem dX4_partOfBest_31 : decode cX4_partOfBest 31 = .ok (.getfield 9, 3) := by decide +kernel
theorem dX4_partOfBest_34 : decode cX4_partOfBest 34 = .ok (.iload_n 2, 1) := by decide +kernel
theorem dX4_partOfBest_35 : decode cX4_partOfBest 35 = .ok (.iaload, 1) := by decide +kernel
theorem dX4_partOfBest_36 : decode cX4_partOfBest 36 = .ok (.goto 4, 3) := by decide +kernel
theorem dX4_partOfBest_39 : decode cX4_partOfBest 39 = .ok (.iconst (-1), 1) := by decide +kernel
theorem dX4_partOfBest_40 : decode cX4_partOfBest 40 = .ok (.ireturn, 1) := by decide +kernel
theorem dX4_fillTastiest_0 : decode cX4_fillTastiest 0 = .ok (.iconst 0, 1) := by decide +kernel
theorem dX4_fillTastiest_1 : decode cX4_fillTastiest 1 = .ok (.istore_n 1, 1) := by decide +kernel
theorem dX4_fillTastiest_2 : decode cX4_fillTastiest 2 = .ok (.iload_n 1, 1) := by decide +kernel
theorem dX4_fillTastiest_3 : decode cX4_fillTastiest 3 = .ok (.bipush 61, 2) := by decide +kernel
theorem dX4_fillTastiest_5 : decode cX4_fillTastiest 5 = .ok (.if_icmp .ge 24, 3) := by decide +kernel
theorem dX4_fillTastiest_8 : decode cX4_fillTastiest 8 = .ok (.aload_n 0, 1) := by decide +kernel
theorem dX4_fillTastiest_9 : decode cX4_fillTastiest 9 = .ok (.getfield 21, 3) := by decide +kernel
theorem dX4_fillTastiest_12 : decode cX4_fillTastiest 12 = .ok (.aload_n 0, 1) := by decide +kernel
theorem dX4_fillTastiest_13 : decode cX4_fillTastiest 13 = .ok (.getfield 30, 3) := by decide +kernel
theorem dX4_fillTastiest_16 : decode cX4_fillTastiest 16 = .ok (.bipush 61, 2) := by decide +kernel
theorem dX4_fillTastiest_18 : decode cX4_fillTastiest 18 = .ok (.imul, 1) := by decide +kernel
theorem dX4_fillTastiest_19 : decode cX4_fillTastiest 19 = .ok (.iload_n 1, 1) := by decide +kernel
theorem dX4_fillTastiest_20 : decode cX4_fillTastiest 20 = .ok (.iadd, 1) := by decide +kernel
theorem dX4_fillTastiest_21 : decode cX4_fillTastiest 21 = .ok (.iconst (-1), 1) := by decide +kernel
theorem dX4_fillTastiest_22 : decode cX4_fillTastiest 22 = .ok (.iastore, 1) := by decide +kernel
theorem dX4_fillTastiest_23 : decode cX4_fillTastiest 23 = .ok (.iinc 1 1, 3) := by decide +kernel
theorem dX4_fillTastiest_26 : decode cX4_fillTastiest 26 = .ok (.goto (-24), 3) := by decide +kernel
theorem dX4_fillTastiest_29 : decode cX4_fillTastiest 29 = .ok (.aload_n 0, 1) := by decide +kernel
theorem dX4_fillTastiest_30 : decode cX4_fillTastiest 30 = .ok (.getfield 30, 3) := by decide +kernel
theorem dX4_fillTastiest_33 : decode cX4_fillTastiest 33 = .ok (.iconst 1, 1) := by decide +kernel
theorem dX4_fillTastiest_34 : decode cX4_fillTastiest 34 = .ok (.isub, 1) := by decide +kernel
theorem dX4_fillTastiest_35 : decode cX4_fillTastiest 35 = .ok (.istore_n 1, 1) := by decide +kernel
theorem dX4_fillTastiest_36 : decode cX4_fillTastiest 36 = .ok (.iload_n 1, 1) := by decide +kernel
theorem dX4_fillTastiest_37 : decode cX4_fillTastiest 37 = .ok (.ifCond .lt 74, 3) := by decide +kernel
theorem dX4_fillTastiest_40 : decode cX4_fillTastiest 40 = .ok (.iload_n 1, 1) := by decide +kernel
theorem dX4_fillTastiest_41 : decode cX4_fillTastiest 41 = .ok (.bipush 61, 2) := by decide +kernel
theorem dX4_fillTastiest_43 : decode cX4_fillTastiest 43 = .ok (.imul, 1) := by decide +kernel
theorem dX4_fillTastiest_44 : decode cX4_fillTastiest 44 = .ok (.istore_n 2, 1) := by decide +kernel
theorem dX4_fillTastiest_45 : decode cX4_fillTastiest 45 = .ok (.aload_n 0, 1) := by decide +kernel
theorem dX4_fillTastiest_46 : decode cX4_fillTastiest 46 = .ok (.getfield 21, 3) := by decide +kernel
theorem dX4_fillTastiest_49 : decode cX4_fillTastiest 49 = .ok (.iload_n 2, 1) := by decide +kernel
theorem dX4_fillTastiest_50 : decode cX4_fillTastiest 50 = .ok (.bipush 61, 2) := by decide +kernel
theorem dX4_fillTastiest_52 : decode cX4_fillTastiest 52 = .ok (.iadd, 1) := by decide +kernel
theorem dX4_fillTastiest_53 : decode cX4_fillTastiest 53 = .ok (.aload_n 0, 1) := by decide +kernel
theorem dX4_fillTastiest_54 : decode cX4_fillTastiest 54 = .ok (.getfield 21, 3) := by decide +kernel
theorem dX4_fillTastiest_57 : decode cX4_fillTastiest 57 = .ok (.iload_n 2, 1) := by decide +kernel
theorem dX4_fillTastiest_58 : decode cX4_fillTastiest 58 = .ok (.bipush 61, 2) := by decide +kernel
theorem dX4_fillTastiest_60 : decode cX4_fillTastiest 60 = .ok (.invokestatic 44, 3) := by decide +kernel
theorem dX4_fillTastiest_63 : decode cX4_fillTastiest 63 = .ok (.aload_n 0, 1) := by decide +kernel
theorem dX4_fillTastiest_64 : decode cX4_fillTastiest 64 = .ok (.getfield 15, 3) := by decide +kernel
theorem dX4_fillTastiest_67 : decode cX4_fillTastiest 67 = .ok (.iload_n 1, 1) := by decide +kernel
theorem dX4_fillTastiest_68 : decode cX4_fillTastiest 68 = .ok (.iaload, 1) := by decide +kernel
theorem dX4_fillTastiest_69 : decode cX4_fillTastiest 69 = .ok (.istore_n 3, 1) := by decide +kernel
theorem dX4_fillTastiest_70 : decode cX4_fillTastiest 70 = .ok (.iload_n 3, 1) := by decide +kernel
theorem dX4_fillTastiest_71 : decode cX4_fillTastiest 71 = .ok (.ifCond .lt 34, 3) := by decide +kernel
theorem dX4_fillTastiest_74 : decode cX4_fillTastiest 74 = .ok (.iload_n 3, 1) := by decide +kernel
theorem dX4_fillTastiest_75 : decode cX4_fillTastiest 75 = .ok (.bipush 61, 2) := by decide +kernel
theorem dX4_fillTastiest_77 : decode cX4_fillTastiest 77 = .ok (.if_icmp .ge 28, 3) := by decide +kernel
theorem dX4_fillTastiest_80 : decode cX4_fillTastiest 80 = .ok (.aload_n 0, 1) := by decide +kernel
theorem dX4_fillTastiest_81 : decode cX4_fillTastiest 81 = .ok (.iload_n 1, 1) := by decide +kernel
theorem dX4_fillTastiest_82 : decode cX4_fillTastiest 82 = .ok (.aload_n 0, 1) := by decide +kernel
theorem dX4_fillTastiest_83 : decode cX4_fillTastiest 83 = .ok (.getfield 21, 3) := by decide +kernel
theorem dX4_fillTastiest_86 : decode cX4_fillTastiest 86 = .ok (.iload_n 2, 1) := by decide +kernel
theorem dX4_fillTastiest_87 : decode cX4_fillTastiest 87 = .ok (.iload_n 3, 1) := by decide +kernel
theorem dX4_fillTastiest_88 : decode cX4_fillTastiest 88 = .ok (.iadd, 1) := by decide +kernel
theorem dX4_fillTastiest_89 : decode cX4_fillTastiest 89 = .ok (.iaload, 1) := by decide +kernel
theorem dX4_fillTastiest_90 : decode cX4_fillTastiest 90 = .ok (.invokevirtual 50, 3) := by decide +kernel
theorem dX4_fillTastiest_93 : decode cX4_fillTastiest 93 = .ok (.ifCond .eq 12, 3) := by decide +kernel
theorem dX4_fillTastiest_96 : decode cX4_fillTastiest 96 = .ok (.aload_n 0, 1) := by decide +kernel
theorem dX4_fillTastiest_97 : decode cX4_fillTastiest 97 = .ok (.getfield 21, 3) := by decide +kernel
theorem dX4_fillTastiest_100 : decode cX4_fillTastiest 100 = .ok (.iload_n 2, 1) := by decide +kernel
theorem dX4_fillTastiest_101 : decode cX4_fillTastiest 101 = .ok (.iload_n 3, 1) := by decide +kernel
theorem dX4_fillTastiest_102 : decode cX4_fillTastiest 102 = .ok (.iadd, 1) := by decide +kernel
theorem dX4_fillTastiest_103 : decode cX4_fillTastiest 103 = .ok (.iload_n 1, 1) := by decide +kernel
theorem dX4_fillTastiest_104 : decode cX4_fillTastiest 104 = .ok (.iastore, 1) := by decide +kernel
theorem dX4_fillTastiest_105 : decode cX4_fillTastiest 105 = .ok (.iinc 1 (-1), 3) := by decide +kernel
theorem dX4_fillTastiest_108 : decode cX4_fillTastiest 108 = .ok (.goto (-72), 3) := by decide +kernel
theorem dX4_fillTastiest_111 : decode cX4_fillTastiest 111 = .ok (.return_, 1) := by decide +kernel
theorem dX4_isAsTasty_0 : decode cX4_isAsTasty 0 = .ok (.iload_n 2, 1) := by decide +kernel
theorem dX4_isAsTasty_1 : decode cX4_isAsTasty 1 = .ok (.ifCond .lt 26, 3) := by decide +kernel
theorem dX4_isAsTasty_4 : decode cX4_isAsTasty 4 = .ok (.iload_n 2, 1) := by decide +kernel
theorem dX4_isAsTasty_5 : decode cX4_isAsTasty 5 = .ok (.aload_n 0, 1) := by decide +kernel
theorem dX4_isAsTasty_6 : decode cX4_isAsTasty 6 = .ok (.getfield 30, 3) := by decide +kernel
theorem dX4_isAsTasty_9 : decode cX4_isAsTasty 9 = .ok (.if_icmp .ge 18, 3) := by decide +kernel
theorem dX4_isAsTasty_12 : decode cX4_isAsTasty 12 = .ok (.aload_n 0, 1) := by decide +kernel
theorem dX4_isAsTasty_13 : decode cX4_isAsTasty 13 = .ok (.getfield 18, 3) := by decide +kernel
theorem dX4_isAsTasty_16 : decode cX4_isAsTasty 16 = .ok (.iload_n 1, 1) := by decide +kernel
theorem dX4_isAsTasty_17 : decode cX4_isAsTasty 17 = .ok (.iaload, 1) := by decide +kernel
theorem dX4_isAsTasty_18 : decode cX4_isAsTasty 18 = .ok (.aload_n 0, 1) := by decide +kernel
theorem dX4_isAsTasty_19 : decode cX4_isAsTasty 19 = .ok (.getfield 18, 3) := by decide +kernel
theorem dX4_isAsTasty_22 : decode cX4_isAsTasty 22 = .ok (.iload_n 2, 1) := by decide +kernel
theorem dX4_isAsTasty_23 : decode cX4_isAsTasty 23 = .ok (.iaload, 1) := by decide +kernel
theorem dX4_isAsTasty_24 : decode cX4_isAsTasty 24 = .ok (.if_icmp .lt 7, 3) := by decide +kernel
theorem dX4_isAsTasty_27 : decode cX4_isAsTasty 27 = .ok (.iconst 1, 1) := by decide +kernel
theorem dX4_isAsTasty_28 : decode cX4_isAsTasty 28 = .ok (.goto 4, 3) := by decide +kernel
theorem dX4_isAsTasty_31 : decode cX4_isAsTasty 31 = .ok (.iconst 0, 1) := by decide +kernel
theorem dX4_isAsTasty_32 : decode cX4_isAsTasty 32 = .ok (.ireturn, 1) := by decide +kernel
theorem dX4_chooseFrom_0 : decode cX4_chooseFrom 0 = .ok (.iload_n 1, 1) := by decide +kernel
theorem dX4_chooseFrom_1 : decode cX4_chooseFrom 1 = .ok (.iload_n 2, 1) := by decide +kernel
theorem dX4_chooseFrom_2 : decode cX4_chooseFrom 2 = .ok (.if_icmp .ge 8, 3) := by decide +kernel
theorem dX4_chooseFrom_5 : decode cX4_chooseFrom 5 = .ok (.iload_n 1, 1) := by decide +kernel
theorem dX4_chooseFrom_6 : decode cX4_chooseFrom 6 = .ok (.iconst 4, 1) := by decide +kernel
theorem dX4_chooseFrom_7 : decode cX4_chooseFrom 7 = .ok (.if_icmp .lt 14, 3) := by decide +kernel
theorem dX4_chooseFrom_10 : decode cX4_chooseFrom 10 = .ok (.aload_n 0, 1) := by decide +kernel
theorem dX4_chooseFrom_11 : decode cX4_chooseFrom 11 = .ok (.iload_n 2, 1) := by decide +kernel
theorem dX4_chooseFrom_12 : decode cX4_chooseFrom 12 = .ok (.iload_n 3, 1) := by decide +kernel
theorem dX4_chooseFrom_13 : decode cX4_chooseFrom 13 = .ok (.iload 4, 2) := by decide +kernel
theorem dX4_chooseFrom_15 : decode cX4_chooseFrom 15 = .ok (.iload 5, 2) := by decide +kernel
theorem dX4_chooseFrom_17 : decode cX4_chooseFrom 17 = .ok (.invokevirtual 54, 3) := by decide +kernel
theorem dX4_chooseFrom_20 : decode cX4_chooseFrom 20 = .ok (.return_, 1) := by decide +kernel
theorem dX4_chooseFrom_21 : decode cX4_chooseFrom 21 = .ok (.iload_n 3, 1) := by decide +kernel
theorem dX4_chooseFrom_22 : decode cX4_chooseFrom 22 = .ok (.istore 6, 2) := by decide +kernel
theorem dX4_chooseFrom_24 : decode cX4_chooseFrom 24 = .ok (.iload 6, 2) := by decide +kernel
theorem dX4_chooseFrom_26 : decode cX4_chooseFrom 26 = .ok (.aload_n 0, 1) := by decide +kernel
theorem dX4_chooseFrom_27 : decode cX4_chooseFrom 27 = .ok (.getfield 30, 3) := by decide +kernel
theorem dX4_chooseFrom_30 : decode cX4_chooseFrom 30 = .ok (.if_icmp .ge 72, 3) := by decide +kernel
theorem dX4_chooseFrom_33 : decode cX4_chooseFrom 33 = .ok (.iload 4, 2) := by decide +kernel
theorem dX4_chooseFrom_35 : decode cX4_chooseFrom 35 = .ok (.aload_n 0, 1) := by decide +kernel
theorem dX4_chooseFrom_36 : decode cX4_chooseFrom 36 = .ok (.getfield 15, 3) := by decide +kernel
theorem dX4_chooseFrom_39 : decode cX4_chooseFrom 39 = .ok (.iload 6, 2) := by decide +kernel
theorem dX4_chooseFrom_41 : decode cX4_chooseFrom 41 = .ok (.iaload, 1) := by decide +kernel
theorem dX4_chooseFrom_42 : decode cX4_chooseFrom 42 = .ok (.isub, 1) := by decide +kernel
theorem dX4_chooseFrom_43 : decode cX4_chooseFrom 43 = .ok (.istore 7, 2) := by decide +kernel
theorem dX4_chooseFrom_45 : decode cX4_chooseFrom 45 = .ok (.iload 7, 2) := by decide +kernel
theorem dX4_chooseFrom_47 : decode cX4_chooseFrom 47 = .ok (.iload_n 2, 1) := by decide +kernel
theorem dX4_chooseFrom_48 : decode cX4_chooseFrom 48 = .ok (.iload_n 1, 1) := by decide +kernel
theorem dX4_chooseFrom_49 : decode cX4_chooseFrom 49 = .ok (.isub, 1) := by decide +kernel
theorem dX4_chooseFrom_50 : decode cX4_chooseFrom 50 = .ok (.if_icmp .lt 46, 3) := by decide +kernel
theorem dX4_chooseFrom_53 : decode cX4_chooseFrom 53 = .ok (.iload 7, 2) := by decide +kernel
theorem dX4_chooseFrom_55 : decode cX4_chooseFrom 55 = .ok (.iload_n 2, 1) := by decide +kernel
theorem dX4_chooseFrom_56 : decode cX4_chooseFrom 56 = .ok (.iload_n 1, 1) := by decide +kernel
theorem dX4_chooseFrom_57 : decode cX4_chooseFrom 57 = .ok (.isub, 1) := by decide +kernel
theorem dX4_chooseFrom_58 : decode cX4_chooseFrom 58 = .ok (.bipush 60, 2) := by decide +kernel
theorem dX4_chooseFrom_60 : decode cX4_chooseFrom 60 = .ok (.imul, 1) := by decide +kernel
theorem dX4_chooseFrom_61 : decode cX4_chooseFrom 61 = .ok (.if_icmp .gt 35, 3) := by decide +kernel
theorem dX4_chooseFrom_64 : decode cX4_chooseFrom 64 = .ok (.aload_n 0, 1) := by decide +kernel
theorem dX4_chooseFrom_65 : decode cX4_chooseFrom 65 = .ok (.getfield 24, 3) := by decide +kernel
theorem dX4_chooseFrom_68 : decode cX4_chooseFrom 68 = .ok (.iload_n 1, 1) := by decide +kernel
theorem dX4_chooseFrom_69 : decode cX4_chooseFrom 69 = .ok (.iload 6, 2) := by decide +kernel
theorem dX4_chooseFrom_71 : decode cX4_chooseFrom 71 = .ok (.iastore, 1) := by decide +kernel
theorem dX4_chooseFrom_72 : decode cX4_chooseFrom 72 = .ok (.aload_n 0, 1) := by decide +kernel
theorem dX4_chooseFrom_73 : decode cX4_chooseFrom 73 = .ok (.iload_n 1, 1) := by decide +kernel
theorem dX4_chooseFrom_74 : decode cX4_chooseFrom 74 = .ok (.iconst 1, 1) := by decide +kernel
theorem dX4_chooseFrom_75 : decode cX4_chooseFrom 75 = .ok (.iadd, 1) := by decide +kernel
theorem dX4_chooseFrom_76 : decode cX4_chooseFrom 76 = .ok (.iload_n 2, 1) := by decide +kernel
theorem dX4_chooseFrom_77 : decode cX4_chooseFrom 77 = .ok (.iload 6, 2) := by decide +kernel
theorem dX4_chooseFrom_79 : decode cX4_chooseFrom 79 = .ok (.iconst 1, 1) := by decide +kernel
theorem dX4_chooseFrom_80 : decode cX4_chooseFrom 80 = .ok (.iadd, 1) := by decide +kernel
theorem dX4_chooseFrom_81 : decode cX4_chooseFrom 81 = .ok (.iload 7, 2) := by decide +kernel
theorem dX4_chooseFrom_83 : decode cX4_chooseFrom 83 = .ok (.iload 5, 2) := by decide +kernel
theorem dX4_chooseFrom_85 : decode cX4_chooseFrom 85 = .ok (.aload_n 0, 1) := by decide +kernel
theorem dX4_chooseFrom_86 : decode cX4_chooseFrom 86 = .ok (.getfield 18, 3) := by decide +kernel
theorem dX4_chooseFrom_89 : decode cX4_chooseFrom 89 = .ok (.iload 6, 2) := by decide +kernel
theorem dX4_chooseFrom_91 : decode cX4_chooseFrom 91 = .ok (.iaload, 1) := by decide +kernel
theorem dX4_chooseFrom_92 : decode cX4_chooseFrom 92 = .ok (.iadd, 1) := by decide +kernel
theorem dX4_chooseFrom_93 : decode cX4_chooseFrom 93 = .ok (.invokevirtual 40, 3) := by decide +kernel
theorem dX4_chooseFrom_96 : decode cX4_chooseFrom 96 = .ok (.iinc 6 1, 3) := by decide +kernel
theorem dX4_chooseFrom_99 : decode cX4_chooseFrom 99 = .ok (.goto (-75), 3) := by decide +kernel
theorem dX4_chooseFrom_102 : decode cX4_chooseFrom 102 = .ok (.return_, 1) := by decide +kernel
theorem dX4_finish_0 : decode cX4_finish 0 = .ok (.iload_n 3, 1) := by decide +kernel
theorem dX4_finish_1 : decode cX4_finish 1 = .ok (.iconst 1, 1) := by decide +kernel
theorem dX4_finish_2 : decode cX4_finish 2 = .ok (.if_icmp .lt 22, 3) := by decide +kernel
theorem dX4_finish_5 : decode cX4_finish 5 = .ok (.iload_n 3, 1) := by decide +kernel
theorem dX4_finish_6 : decode cX4_finish 6 = .ok (.bipush 61, 2) := by decide +kernel
theorem dX4_finish_8 : decode cX4_finish 8 = .ok (.if_icmp .ge 16, 3) := by decide +kernel
theorem dX4_finish_11 : decode cX4_finish 11 = .ok (.iload_n 2, 1) := by decide +kernel
theorem dX4_finish_12 : decode cX4_finish 12 = .ok (.aload_n 0, 1) := by decide +kernel
theorem dX4_finish_13 : decode cX4_finish 13 = .ok (.getfield 30, 3) := by decide +kernel
theorem dX4_finish_16 : decode cX4_finish 16 = .ok (.if_icmp .gt 8, 3) := by decide +kernel
theorem dX4_finish_19 : decode cX4_finish 19 = .ok (.iload_n 1, 1) := by decide +kernel
theorem dX4_finish_20 : decode cX4_finish 20 = .ok (.iconst 4, 1) := by decide +kernel
theorem dX4_finish_21 : decode cX4_finish 21 = .ok (.if_icmp .lt 4, 3) := by decide +kernel
theorem dX4_finish_24 : decode cX4_finish 24 = .ok (.return_, 1) := by decide +kernel
theorem dX4_finish_25 : decode cX4_finish 25 = .ok (.aload_n 0, 1) := by decide +kernel
theorem dX4_finish_26 : decode cX4_finish 26 = .ok (.getfield 21, 3) := by decide +kernel
theorem dX4_finish_29 : decode cX4_finish 29 = .ok (.iload_n 2, 1) := by decide +kernel
theorem dX4_finish_30 : decode cX4_finish 30 = .ok (.bipush 61, 2) := by decide +kernel
theorem dX4_finish_32 : decode cX4_finish 32 = .ok (.imul, 1) := by decide +kernel
theorem dX4_finish_33 : decode cX4_finish 33 = .ok (.iload_n 3, 1) := by decide +kernel
theorem dX4_finish_34 : decode cX4_finish 34 = .ok (.iadd, 1) := by decide +kernel
theorem dX4_finish_35 : decode cX4_finish 35 = .ok (.iaload, 1) := by decide +kernel
theorem dX4_finish_36 : decode cX4_finish 36 = .ok (.istore 5, 2) := by decide +kernel
theorem dX4_finish_38 : decode cX4_finish 38 = .ok (.iload 5, 2) := by decide +kernel
theorem dX4_finish_40 : decode cX4_finish 40 = .ok (.ifCond .lt 80, 3) := by decide +kernel
theorem dX4_finish_43 : decode cX4_finish 43 = .ok (.iload 5, 2) := by decide +kernel
theorem dX4_finish_45 : decode cX4_finish 45 = .ok (.aload_n 0, 1) := by decide +kernel
theorem dX4_finish_46 : decode cX4_finish 46 = .ok (.getfield 30, 3) := by decide +kernel
theorem dX4_finish_49 : decode cX4_finish 49 = .ok (.if_icmp .ge 71, 3) := by decide +kernel
theorem dX4_finish_52 : decode cX4_finish 52 = .ok (.iload 4, 2) := by decide +kernel
theorem dX4_finish_54 : decode cX4_finish 54 = .ok (.aload_n 0, 1) := by decide +kernel
theorem dX4_finish_55 : decode cX4_finish 55 = .ok (.getfield 18, 3) := by decide +kernel
theorem dX4_finish_58 : decode cX4_finish 58 = .ok (.iload 5, 2) := by decide +kernel
theorem dX4_finish_60 : decode cX4_finish 60 = .ok (.iaload, 1) := by decide +kernel
theorem dX4_finish_61 : decode cX4_finish 61 = .ok (.iadd, 1) := by decide +kernel
theorem dX4_finish_62 : decode cX4_finish 62 = .ok (.aload_n 0, 1) := by decide +kernel
theorem dX4_finish_63 : decode cX4_finish 63 = .ok (.getfield 37, 3) := by decide +kernel
theorem dX4_finish_66 : decode cX4_finish 66 = .ok (.if_icmp .le 54, 3) := by decide +kernel
theorem dX4_finish_69 : decode cX4_finish 69 = .ok (.aload_n 0, 1) := by decide +kernel
theorem dX4_finish_70 : decode cX4_finish 70 = .ok (.iload 4, 2) := by decide +kernel
theorem dX4_finish_72 : decode cX4_finish 72 = .ok (.aload_n 0, 1) := by decide +kernel
theorem dX4_finish_73 : decode cX4_finish 73 = .ok (.getfield 18, 3) := by decide +kernel
theorem dX4_finish_76 : decode cX4_finish 76 = .ok (.iload 5, 2) := by decide +kernel
theorem dX4_finish_78 : decode cX4_finish 78 = .ok (.iaload, 1) := by decide +kernel
theorem dX4_finish_79 : decode cX4_finish 79 = .ok (.iadd, 1) := by decide +kernel
theorem dX4_finish_80 : decode cX4_finish 80 = .ok (.putfield 37, 3) := by decide +kernel
theorem dX4_finish_83 : decode cX4_finish 83 = .ok (.iconst 0, 1) := by decide +kernel
theorem dX4_finish_84 : decode cX4_finish 84 = .ok (.istore 6, 2) := by decide +kernel
theorem dX4_finish_86 : decode cX4_finish 86 = .ok (.iload 6, 2) := by decide +kernel
theorem dX4_finish_88 : decode cX4_finish 88 = .ok (.iload_n 1, 1) := by decide +kernel
theorem dX4_finish_89 : decode cX4_finish 89 = .ok (.if_icmp .ge 23, 3) := by decide +kernel
theorem dX4_finish_92 : decode cX4_finish 92 = .ok (.aload_n 0, 1) := by decide +kernel
theorem dX4_finish_93 : decode cX4_finish 93 = .ok (.getfield 27, 3) := by decide +kernel
theorem dX4_finish_96 : decode cX4_finish 96 = .ok (.iload 6, 2) := by decide +kernel
theorem dX4_finish_98 : decode cX4_finish 98 = .ok (.aload_n 0, 1) := by decide +kernel
theorem dX4_finish_99 : decode cX4_finish 99 = .ok (.getfield 24, 3) := by decide +kernel
theorem dX4_finish_102 : decode cX4_finish 102 = .ok (.iload 6, 2) := by decide +kernel
theorem dX4_finish_104 : decode cX4_finish 104 = .ok (.iaload, 1) := by decide +kernel
theorem dX4_finish_105 : decode cX4_finish 105 = .ok (.iastore, 1) := by decide +kernel
theorem dX4_finish_106 : decode cX4_finish 106 = .ok (.iinc 6 1, 3) := by decide +kernel
theorem dX4_finish_109 : decode cX4_finish 109 = .ok (.goto (-23), 3) := by decide +kernel
theorem dX4_finish_112 : decode cX4_finish 112 = .ok (.aload_n 0, 1) := by decide +kernel
theorem dX4_finish_113 : decode cX4_finish 113 = .ok (.getfield 27, 3) := by decide +kernel
theorem dX4_finish_116 : decode cX4_finish 116 = .ok (.iload_n 1, 1) := by decide +kernel
theorem dX4_finish_117 : decode cX4_finish 117 = .ok (.iload 5, 2) := by decide +kernel
theorem dX4_finish_119 : decode cX4_finish 119 = .ok (.iastore, 1) := by decide +kernel
theorem dX4_finish_120 : decode cX4_finish 120 = .ok (.return_, 1) := by decide +kernel
theorem dX5_init_0 : decode cX5_init 0 = .ok (.aload_n 0, 1) := by decide +kernel
theorem dX5_init_1 : decode cX5_init 1 = .ok (.invokespecial 3, 3) := by decide +kernel
theorem dX5_init_4 : decode cX5_init 4 = .ok (.aload_n 0, 1) := by decide +kernel
theorem dX5_init_5 : decode cX5_init 5 = .ok (.bipush 12, 2) := by decide +kernel
theorem dX5_init_7 : decode cX5_init 7 = .ok (.newarray .int, 2) := by decide +kernel
theorem dX5_init_9 : decode cX5_init 9 = .ok (.putfield 9, 3) := by decide +kernel
theorem dX5_init_12 : decode cX5_init 12 = .ok (.aload_n 0, 1) := by decide +kernel
theorem dX5_init_13 : decode cX5_init 13 = .ok (.sipush 793, 3) := by decide +kernel
theorem dX5_init_16 : decode cX5_init 16 = .ok (.newarray .int, 2) := by decide +kernel
theorem dX5_init_18 : decode cX5_init 18 = .ok (.putfield 15, 3) := by decide +kernel
theorem dX5_init_21 : decode cX5_init 21 = .ok (.aload_n 0, 1) := by decide +kernel
theorem dX5_init_22 : decode cX5_init 22 = .ok (.bipush 13, 2) := by decide +kernel
theorem dX5_init_24 : decode cX5_init 24 = .ok (.newarray .int, 2) := by decide +kernel
theorem dX5_init_26 : decode cX5_init 26 = .ok (.putfield 18, 3) := by decide +kernel
theorem dX5_init_29 : decode cX5_init 29 = .ok (.aload_n 0, 1) := by decide +kernel
theorem dX5_init_30 : decode cX5_init 30 = .ok (.sipush 4096, 3) := by decide +kernel
theorem dX5_init_33 : decode cX5_init 33 = .ok (.newarray .int, 2) := by decide +kernel
theorem dX5_init_35 : decode cX5_init 35 = .ok (.putfield 21, 3) := by decide +kernel
theorem dX5_init_38 : decode cX5_init 38 = .ok (.return_, 1) := by decide +kernel
theorem dX5_clear_0 : decode cX5_clear 0 = .ok (.aload_n 0, 1) := by decide +kernel
theorem dX5_clear_1 : decode cX5_clear 1 = .ok (.iconst 0, 1) := by decide +kernel
theorem dX5_clear_2 : decode cX5_clear 2 = .ok (.putfield 24, 3) := by decide +kernel
theorem dX5_clear_5 : decode cX5_clear 5 = .ok (.return_, 1) := by decide +kernel
theorem dX5_takes_0 : decode cX5_takes 0 = .ok (.aload_n 0, 1) := by decide +kernel
theorem dX5_takes_1 : decode cX5_takes 1 = .ok (.getfield 24, 3) := by decide +kernel
theorem dX5_takes_4 : decode cX5_takes 4 = .ok (.bipush 12, 2) := by decide +kernel
theorem dX5_takes_6 : decode cX5_takes 6 = .ok (.if_icmp .lt 5, 3) := by decide +kernel
theorem dX5_takes_9 : decode cX5_takes 9 = .ok (.iconst 0, 1) := by decide +kernel
theorem dX5_takes_10 : decode cX5_takes 10 = .ok (.ireturn, 1) := by decide +kernel
theorem dX5_takes_11 : decode cX5_takes 11 = .ok (.aload_n 0, 1) := by decide +kernel
theorem dX5_takes_12 : decode cX5_takes 12 = .ok (.getfield 9, 3) := by decide +kernel
theorem dX5_takes_15 : decode cX5_takes 15 = .ok (.aload_n 0, 1) := by decide +kernel
theorem dX5_takes_16 : decode cX5_takes 16 = .ok (.getfield 24, 3) := by decide +kernel
theorem dX5_takes_19 : decode cX5_takes 19 = .ok (.iload_n 1, 1) := by decide +kernel
theorem dX5_takes_20 : decode cX5_takes 20 = .ok (.iastore, 1) := by decide +kernel
theorem dX5_takes_21 : decode cX5_takes 21 = .ok (.aload_n 0, 1) := by decide +kernel
theorem dX5_takes_22 : decode cX5_takes 22 = .ok (.dup, 1) := by decide +kernel
theorem dX5_takes_23 : decode cX5_takes 23 = .ok (.getfield 24, 3) := by decide +kernel
theorem dX5_takes_26 : decode cX5_takes 26 = .ok (.iconst 1, 1) := by decide +kernel
theorem dX5_takes_27 : decode cX5_takes 27 = .ok (.iadd, 1) := by decide +kernel
theorem dX5_takes_28 : decode cX5_takes 28 = .ok (.putfield 24, 3) := by decide +kernel
theorem dX5_takes_31 : decode cX5_takes 31 = .ok (.iconst 1, 1) := by decide +kernel
theorem dX5_takes_32 : decode cX5_takes 32 = .ok (.ireturn, 1) := by decide +kernel
theorem dX5_mostQuills_0 : decode cX5_mostQuills 0 = .ok (.aload_n 0, 1) := by decide +kernel
theorem dX5_mostQuills_1 : decode cX5_mostQuills 1 = .ok (.iconst 0, 1) := by decide +kernel
theorem dX5_mostQuills_2 : decode cX5_mostQuills 2 = .ok (.putfield 28, 3) := by decide +kernel
theorem dX5_mostQuills_5 : decode cX5_mostQuills 5 = .ok (.aload_n 0, 1) := by decide +kernel
theorem dX5_mostQuills_6 : decode cX5_mostQuills 6 = .ok (.iconst 4, 1) := by decide +kernel
theorem dX5_mostQuills_7 : decode cX5_mostQuills 7 = .ok (.putfield 31, 3) := by decide +kernel
theorem dX5_mostQuills_10 : decode cX5_mostQuills 10 = .ok (.iconst 0, 1) := by decide +kernel
theorem dX5_mostQuills_11 : decode cX5_mostQuills 11 = .ok (.istore_n 3, 1) := by decide +kernel
theorem dX5_mostQuills_12 : decode cX5_mostQuills 12 = .ok (.iload_n 3, 1) := by decide +kernel
theorem dX5_mostQuills_13 : decode cX5_mostQuills 13 = .ok (.aload_n 0, 1) := by decide +kernel
theorem dX5_mostQuills_14 : decode cX5_mostQuills 14 = .ok (.getfield 24, 3) := by decide +kernel
theorem dX5_mostQuills_17 : decode cX5_mostQuills 17 = .ok (.if_icmp .ge 39, 3) := by decide +kernel
theorem dX5_mostQuills_20 : decode cX5_mostQuills 20 = .ok (.aload_n 0, 1) := by decide +kernel
theorem dX5_mostQuills_21 : decode cX5_mostQuills 21 = .ok (.getfield 18, 3) := by decide +kernel
theorem dX5_mostQuills_24 : decode cX5_mostQuills 24 = .ok (.iload_n 3, 1) := by decide +kernel
theorem dX5_mostQuills_25 : decode cX5_mostQuills 25 = .ok (.aload_n 0, 1) := by decide +kernel
theorem dX5_mostQuills_26 : decode cX5_mostQuills 26 = .ok (.getfield 28, 3) := by decide +kernel
theorem dX5_mostQuills_29 : decode cX5_mostQuills 29 = .ok (.iastore, 1) := by decide +kernel
theorem dX5_mostQuills_30 : decode cX5_mostQuills 30 = .ok (.aload_n 0, 1) := by decide +kernel
theorem dX5_mostQuills_31 : decode cX5_mostQuills 31 = .ok (.iconst 1, 1) := by decide +kernel
theorem dX5_mostQuills_32 : decode cX5_mostQuills 32 = .ok (.iload_n 3, 1) := by decide +kernel
theorem dX5_mostQuills_33 : decode cX5_mostQuills 33 = .ok (.ishl, 1) := by decide +kernel
theorem dX5_mostQuills_34 : decode cX5_mostQuills 34 = .ok (.iconst 1, 1) := by decide +kernel
theorem dX5_mostQuills_35 : decode cX5_mostQuills 35 = .ok (.iload_n 3, 1) := by decide +kernel
theorem dX5_mostQuills_36 : decode cX5_mostQuills 36 = .ok (.iconst 1, 1) := by decide +kernel
theorem dX5_mostQuills_37 : decode cX5_mostQuills 37 = .ok (.iadd, 1) := by decide +kernel
theorem dX5_mostQuills_38 : decode cX5_mostQuills 38 = .ok (.iload_n 1, 1) := by decide +kernel
theorem dX5_mostQuills_39 : decode cX5_mostQuills 39 = .ok (.aload_n 0, 1) := by decide +kernel
theorem dX5_mostQuills_40 : decode cX5_mostQuills 40 = .ok (.getfield 9, 3) := by decide +kernel
theorem dX5_mostQuills_43 : decode cX5_mostQuills 43 = .ok (.iload_n 3, 1) := by decide +kernel
theorem dX5_mostQuills_44 : decode cX5_mostQuills 44 = .ok (.iaload, 1) := by decide +kernel
theorem dX5_mostQuills_45 : decode cX5_mostQuills 45 = .ok (.isub, 1) := by decide +kernel
theorem dX5_mostQuills_46 : decode cX5_mostQuills 46 = .ok (.iload_n 2, 1) := by decide +kernel
theorem dX5_mostQuills_47 : decode cX5_mostQuills 47 = .ok (.invokevirtual 34, 3) := by decide +kernel
theorem dX5_mostQuills_50 : decode cX5_mostQuills 50 = .ok (.iinc 3 1, 3) := by decide +kernel
theorem dX5_mostQuills_53 : decode cX5_mostQuills 53 = .ok (.goto (-41), 3) := by decide +kernel
theorem dX5_mostQuills_56 : decode cX5_mostQuills 56 = .ok (.aload_n 0, 1) := by decide +kernel
theorem dX5_mostQuills_57 : decode cX5_mostQuills 57 = .ok (.getfield 18, 3) := by decide +kernel
theorem dX5_mostQuills_60 : decode cX5_mostQuills 60 = .ok (.aload_n 0, 1) := by decide +kernel
theorem dX5_mostQuills_61 : decode cX5_mostQuills 61 = .ok (.getfield 24, 3) := by decide +kernel
theorem dX5_mostQuills_64 : decode cX5_mostQuills 64 = .ok (.aload_n 0, 1) := by decide +kernel
theorem dX5_mostQuills_65 : decode cX5_mostQuills 65 = .ok (.getfield 28, 3) := by decide +kernel
theorem dX5_mostQuills_68 : decode cX5_mostQuills 68 = .ok (.iastore, 1) := by decide +kernel
theorem dX5_mostQuills_69 : decode cX5_mostQuills 69 = .ok (.iconst 1, 1) := by decide +kernel
theorem dX5_mostQuills_70 : decode cX5_mostQuills 70 = .ok (.aload_n 0, 1) := by decide +kernel
theorem dX5_mostQuills_71 : decode cX5_mostQuills 71 = .ok (.getfield 24, 3) := by decide +kernel
theorem dX5_mostQuills_74 : decode cX5_mostQuills 74 = .ok (.ishl, 1) := by decide +kernel
theorem dX5_mostQuills_75 : decode cX5_mostQuills 75 = .ok (.iconst 1, 1) := by decide +kernel
theorem dX5_mostQuills_76 : decode cX5_mostQuills 76 = .ok (.isub, 1) := by decide +kernel
theorem dX5_mostQuills_77 : decode cX5_mostQuills 77 = .ok (.istore_n 3, 1) := by decide +kernel
theorem dX5_mostQuills_78 : decode cX5_mostQuills 78 = .ok (.iconst 0, 1) := by decide +kernel
theorem dX5_mostQuills_79 : decode cX5_mostQuills 79 = .ok (.istore 4, 2) := by decide +kernel
theorem dX5_mostQuills_81 : decode cX5_mostQuills 81 = .ok (.iload 4, 2) := by decide +kernel
theorem dX5_mostQuills_83 : decode cX5_mostQuills 83 = .ok (.iload_n 3, 1) := by decide +kernel
theorem dX5_mostQuills_84 : decode cX5_mostQuills 84 = .ok (.if_icmp .gt 17, 3) := by decide +kernel
theorem dX5_mostQuills_87 : decode cX5_mostQuills 87 = .ok (.aload_n 0, 1) := by decide +kernel
theorem dX5_mostQuills_88 : decode cX5_mostQuills 88 = .ok (.getfield 21, 3) := by decide +kernel
theorem dX5_mostQuills_91 : decode cX5_mostQuills 91 = .ok (.iload 4, 2) := by decide +kernel
theorem dX5_mostQuills_93 : decode cX5_mostQuills 93 = .ok (.iconst (-1), 1) := by decide +kernel
theorem dX5_mostQuills_94 : decode cX5_mostQuills 94 = .ok (.iastore, 1) := by decide +kernel
theorem dX5_mostQuills_95 : decode cX5_mostQuills 95 = .ok (.iinc 4 1, 3) := by decide +kernel
theorem dX5_mostQuills_98 : decode cX5_mostQuills 98 = .ok (.goto (-17), 3) := by decide +kernel
theorem dX5_mostQuills_101 : decode cX5_mostQuills 101 = .ok (.aload_n 0, 1) := by decide +kernel
theorem dX5_mostQuills_102 : decode cX5_mostQuills 102 = .ok (.iconst 0, 1) := by decide +kernel
theorem dX5_mostQuills_103 : decode cX5_mostQuills 103 = .ok (.iload_n 3, 1) := by decide +kernel
theorem dX5_mostQuills_104 : decode cX5_mostQuills 104 = .ok (.invokevirtual 38, 3) := by decide +kernel
theorem dX5_mostQuills_107 : decode cX5_mostQuills 107 = .ok (.ireturn, 1) := by decide +kernel
theorem dX5_collect_0 : decode cX5_collect 0 = .ok (.iload 4, 2) := by decide +kernel
theorem dX5_collect_2 : decode cX5_collect 2 = .ok (.ifCond .ne 45, 3) := by decide +kernel
theorem dX5_collect_5 : decode cX5_collect 5 = .ok (.aload_n 0, 1) := by decide +kernel
theorem dX5_collect_6 : decode cX5_collect 6 = .ok (.getfield 28, 3) := by decide +kernel
theorem dX5_collect_9 : decode cX5_collect 9 = .ok (.sipush 793, 3) := by decide +kernel
theorem dX5_collect_12 : decode cX5_collect 12 = .ok (.if_icmp .ge 35, 3) := by decide +kernel
theorem dX5_collect_15 : decode cX5_collect 15 = .ok (.aload_n 0, 1) := by decide +kernel
theorem dX5_collect_16 : decode cX5_collect 16 = .ok (.getfield 15, 3) := by decide +kernel
theorem dX5_collect_19 : decode cX5_collect 19 = .ok (.aload_n 0, 1) := by decide +kernel
theorem dX5_collect_20 : decode cX5_collect 20 = .ok (.getfield 28, 3) := by decide +kernel
theorem dX5_collect_23 : decode cX5_collect 23 = .ok (.iload_n 1, 1) := by decide +kernel
theorem dX5_collect_24 : decode cX5_collect 24 = .ok (.iastore, 1) := by decide +kernel
theorem dX5_collect_25 : decode cX5_collect 25 = .ok (.aload_n 0, 1) := by decide +kernel
theorem dX5_collect_26 : decode cX5_collect 26 = .ok (.dup, 1) := by decide +kernel
theorem dX5_collect_27 : decode cX5_collect 27 = .ok (.getfield 28, 3) := by decide +kernel
theorem dX5_collect_30 : decode cX5_collect 30 = .ok (.iconst 1, 1) := by decide +kernel
theorem dX5_collect_31 : decode cX5_collect 31 = .ok (.iadd, 1) := by decide +kernel
theorem dX5_collect_32 : decode cX5_collect 32 = .ok (.putfield 28, 3) := by decide +kernel
theorem dX5_collect_35 : decode cX5_collect 35 = .ok (.aload_n 0, 1) := by decide +kernel
theorem dX5_collect_36 : decode cX5_collect 36 = .ok (.aload_n 0, 1) := by decide +kernel
theorem dX5_collect_37 : decode cX5_collect 37 = .ok (.getfield 31, 3) := by decide +kernel
theorem dX5_collect_40 : decode cX5_collect 40 = .ok (.iload_n 2, 1) := by decide +kernel
theorem dX5_collect_41 : decode cX5_collect 41 = .ok (.invokestatic 42, 3) := by decide +kernel
theorem dX5_collect_44 : decode cX5_collect 44 = .ok (.putfield 31, 3) := by decide +kernel
theorem dX5_collect_47 : decode cX5_collect 47 = .ok (.iload_n 2, 1) := by decide +kernel
theorem dX5_collect_48 : decode cX5_collect 48 = .ok (.iconst 4, 1) := by decide +kernel
theorem dX5_collect_49 : decode cX5_collect 49 = .ok (.if_icmp .ge 53, 3) := by decide +kernel
theorem dX5_collect_52 : decode cX5_collect 52 = .ok (.iload_n 3, 1) := by decide +kernel
theorem dX5_collect_53 : decode cX5_collect 53 = .ok (.istore 6, 2) := by decide +kernel
theorem dX5_collect_55 : decode cX5_collect 55 = .ok (.iload 6, 2) := by decide +kernel
theorem dX5_collect_57 : decode cX5_collect 57 = .ok (.aload_n 0, 1) := by decide +kernel
theorem dX5_collect_58 : decode cX5_collect 58 = .ok (.getfield 24, 3) := by decide +kernel
theorem dX5_collect_61 : decode cX5_collect 61 = .ok (.if_icmp .ge 41, 3) := by decide +kernel
theorem dX5_collect_64 : decode cX5_collect 64 = .ok (.aload_n 0, 1) := by decide +kernel
theorem dX5_collect_65 : decode cX5_collect 65 = .ok (.iload_n 1, 1) := by decide +kernel
theorem dX5_collect_66 : decode cX5_collect 66 = .ok (.iconst 1, 1) := by decide +kernel
theorem dX5_collect_67 : decode cX5_collect 67 = .ok (.iload 6, 2) := by decide +kernel
theorem dX5_collect_69 : decode cX5_collect 69 = .ok (.ishl, 1) := by decide +kernel
theorem dX5_collect_70 : decode cX5_collect 70 = .ok (.ior, 1) := by decide +kernel
theorem dX5_collect_71 : decode cX5_collect 71 = .ok (.iload_n 2, 1) := by decide +kernel
theorem dX5_collect_72 : decode cX5_collect 72 = .ok (.iconst 1, 1) := by decide +kernel
theorem dX5_collect_73 : decode cX5_collect 73 = .ok (.iadd, 1) := by decide +kernel
theorem dX5_collect_74 : decode cX5_collect 74 = .ok (.iload 6, 2) := by decide +kernel
theorem dX5_collect_76 : decode cX5_collect 76 = .ok (.iconst 1, 1) := by decide +kernel
theorem dX5_collect_77 : decode cX5_collect 77 = .ok (.iadd, 1) := by decide +kernel
theorem dX5_collect_78 : decode cX5_collect 78 = .ok (.iload 4, 2) := by decide +kernel
theorem dX5_collect_80 : decode cX5_collect 80 = .ok (.iload 5, 2) := by decide +kernel
theorem dX5_collect_82 : decode cX5_collect 82 = .ok (.iadd, 1) := by decide +kernel
theorem dX5_collect_83 : decode cX5_collect 83 = .ok (.aload_n 0, 1) := by decide +kernel
theorem dX5_collect_84 : decode cX5_collect 84 = .ok (.getfield 9, 3) := by decide +kernel
theorem dX5_collect_87 : decode cX5_collect 87 = .ok (.iload 6, 2) := by decide +kernel
theorem dX5_collect_89 : decode cX5_collect 89 = .ok (.iaload, 1) := by decide +kernel
theorem dX5_collect_90 : decode cX5_collect 90 = .ok (.isub, 1) := by decide +kernel
theorem dX5_collect_91 : decode cX5_collect 91 = .ok (.iload 5, 2) := by decide +kernel
theorem dX5_collect_93 : decode cX5_collect 93 = .ok (.invokevirtual 34, 3) := by decide +kernel
theorem dX5_collect_96 : decode cX5_collect 96 = .ok (.iinc 6 1, 3) := by decide +kernel
theorem dX5_collect_99 : decode cX5_collect 99 = .ok (.goto (-44), 3) := by decide +kernel
theorem dX5_collect_102 : decode cX5_collect 102 = .ok (.return_, 1) := by decide +kernel
theorem dX5_mostOf_0 : decode cX5_mostOf 0 = .ok (.iload_n 1, 1) := by decide +kernel
theorem dX5_mostOf_1 : decode cX5_mostOf 1 = .ok (.aload_n 0, 1) := by decide +kernel
theorem dX5_mostOf_2 : decode cX5_mostOf 2 = .ok (.getfield 24, 3) := by decide +kernel
theorem dX5_mostOf_5 : decode cX5_mostOf 5 = .ok (.if_icmp .ge 14, 3) := by decide +kernel
theorem dX5_mostOf_8 : decode cX5_mostOf 8 = .ok (.iload_n 2, 1) := by decide +kernel
theorem dX5_mostOf_9 : decode cX5_mostOf 9 = .ok (.ifCond .le 10, 3) := by decide +kernel
theorem dX5_mostOf_12 : decode cX5_mostOf 12 = .ok (.iload_n 2, 1) := by decide +kernel
theorem dX5_mostOf_13 : decode cX5_mostOf 13 = .ok (.sipush 4096, 3) := by decide +kernel
theorem dX5_mostOf_16 : decode cX5_mostOf 16 = .ok (.if_icmp .lt 5, 3) := by decide +kernel
theorem dX5_mostOf_19 : decode cX5_mostOf 19 = .ok (.iconst 0, 1) := by decide +kernel
theorem dX5_mostOf_20 : decode cX5_mostOf 20 = .ok (.ireturn, 1) := by decide +kernel
theorem dX5_mostOf_21 : decode cX5_mostOf 21 = .ok (.iload_n 2, 1) := by decide +kernel
theorem dX5_mostOf_22 : decode cX5_mostOf 22 = .ok (.iconst 1, 1) := by decide +kernel
theorem dX5_mostOf_23 : decode cX5_mostOf 23 = .ok (.iload_n 1, 1) := by decide +kernel
theorem dX5_mostOf_24 : decode cX5_mostOf 24 = .ok (.ishl, 1) := by decide +kernel
theorem dX5_mostOf_25 : decode cX5_mostOf 25 = .ok (.iand, 1) := by decide +kernel
theorem dX5_mostOf_26 : decode cX5_mostOf 26 = .ok (.ifCond .ne 12, 3) := by decide +kernel
theorem dX5_mostOf_29 : decode cX5_mostOf 29 = .ok (.aload_n 0, 1) := by decide +kernel
theorem dX5_mostOf_30 : decode cX5_mostOf 30 = .ok (.iload_n 1, 1) := by decide +kernel
theorem dX5_mostOf_31 : decode cX5_mostOf 31 = .ok (.iconst 1, 1) := by decide +kernel
theorem dX5_mostOf_32 : decode cX5_mostOf 32 = .ok (.iadd, 1) := by decide +kernel
theorem dX5_mostOf_33 : decode cX5_mostOf 33 = .ok (.iload_n 2, 1) := by decide +kernel
theorem dX5_mostOf_34 : decode cX5_mostOf 34 = .ok (.invokevirtual 38, 3) := by decide +kernel
theorem dX5_mostOf_37 : decode cX5_mostOf 37 = .ok (.ireturn, 1) := by decide +kernel
theorem dX5_mostOf_38 : decode cX5_mostOf 38 = .ok (.aload_n 0, 1) := by decide +kernel
theorem dX5_mostOf_39 : decode cX5_mostOf 39 = .ok (.getfield 21, 3) := by decide +kernel
theorem dX5_mostOf_42 : decode cX5_mostOf 42 = .ok (.iload_n 2, 1) := by decide +kernel
theorem dX5_mostOf_43 : decode cX5_mostOf 43 = .ok (.iaload, 1) := by decide +kernel
theorem dX5_mostOf_44 : decode cX5_mostOf 44 = .ok (.iconst (-1), 1) := by decide +kernel
theorem dX5_mostOf_45 : decode cX5_mostOf 45 = .ok (.if_icmp .ne 15, 3) := by decide +kernel
theorem dX5_mostOf_48 : decode cX5_mostOf 48 = .ok (.aload_n 0, 1) := by decide +kernel
theorem dX5_mostOf_49 : decode cX5_mostOf 49 = .ok (.getfield 21, 3) := by decide +kernel
theorem dX5_mostOf_52 : decode cX5_mostOf 52 = .ok (.iload_n 2, 1) := by decide +kernel
theorem dX5_mostOf_53 : decode cX5_mostOf 53 = .ok (.aload_n 0, 1) := by decide +kernel
theorem dX5_mostOf_54 : decode cX5_mostOf 54 = .ok (.iload_n 1, 1) := by decide +kernel
theorem dX5_mostOf_55 : decode cX5_mostOf 55 = .ok (.iload_n 2, 1) := by decide +kernel
theorem dX5_mostOf_56 : decode cX5_mostOf 56 = .ok (.invokevirtual 47, 3) := by decide +kernel
theorem dX5_mostOf_59 : decode cX5_mostOf 59 = .ok (.iastore, 1) := by decide +kernel
theorem dX5_mostOf_60 : decode cX5_mostOf 60 = .ok (.aload_n 0, 1) := by decide +kernel
theorem dX5_mostOf_61 : decode cX5_mostOf 61 = .ok (.getfield 21, 3) := by decide +kernel
theorem dX5_mostOf_64 : decode cX5_mostOf 64 = .ok (.iload_n 2, 1) := by decide +kernel
theorem dX5_mostOf_65 : decode cX5_mostOf 65 = .ok (.iaload, 1) := by decide +kernel
theorem dX5_mostOf_66 : decode cX5_mostOf 66 = .ok (.ireturn, 1) := by decide +kernel
theorem dX5_mostByFirst_0 : decode cX5_mostByFirst 0 = .ok (.iload_n 2, 1) := by decide +kernel
theorem dX5_mostByFirst_1 : decode cX5_mostByFirst 1 = .ok (.invokestatic 50, 3) := by decide +kernel
theorem dX5_mostByFirst_4 : decode cX5_mostByFirst 4 = .ok (.aload_n 0, 1) := by decide +kernel
theorem dX5_mostByFirst_5 : decode cX5_mostByFirst 5 = .ok (.getfield 31, 3) := by decide +kernel
theorem dX5_mostByFirst_8 : decode cX5_mostByFirst 8 = .ok (.iconst 1, 1) := by decide +kernel
theorem dX5_mostByFirst_9 : decode cX5_mostByFirst 9 = .ok (.invokestatic 56, 3) := by decide +kernel
theorem dX5_mostByFirst_12 : decode cX5_mostByFirst 12 = .ok (.idiv, 1) := by decide +kernel
theorem dX5_mostByFirst_13 : decode cX5_mostByFirst 13 = .ok (.istore_n 3, 1) := by decide +kernel
theorem dX5_mostByFirst_14 : decode cX5_mostByFirst 14 = .ok (.iconst 0, 1) := by decide +kernel
theorem dX5_mostByFirst_15 : decode cX5_mostByFirst 15 = .ok (.istore 4, 2) := by decide +kernel
theorem dX5_mostByFirst_17 : decode cX5_mostByFirst 17 = .ok (.aload_n 0, 1) := by decide +kernel
theorem dX5_mostByFirst_18 : decode cX5_mostByFirst 18 = .ok (.getfield 18, 3) := by decide +kernel
theorem dX5_mostByFirst_21 : decode cX5_mostByFirst 21 = .ok (.iload_n 1, 1) := by decide +kernel
theorem dX5_mostByFirst_22 : decode cX5_mostByFirst 22 = .ok (.iaload, 1) := by decide +kernel
theorem dX5_mostByFirst_23 : decode cX5_mostByFirst 23 = .ok (.istore 5, 2) := by decide +kernel
theorem dX5_mostByFirst_25 : decode cX5_mostByFirst 25 = .ok (.iload 5, 2) := by decide +kernel
theorem dX5_mostByFirst_27 : decode cX5_mostByFirst 27 = .ok (.aload_n 0, 1) := by decide +kernel
theorem dX5_mostByFirst_28 : decode cX5_mostByFirst 28 = .ok (.getfield 18, 3) := by decide +kernel
theorem dX5_mostByFirst_31 : decode cX5_mostByFirst 31 = .ok (.iload_n 1, 1) := by decide +kernel
theorem dX5_mostByFirst_32 : decode cX5_mostByFirst 32 = .ok (.iconst 1, 1) := by decide +kernel
theorem dX5_mostByFirst_33 : decode cX5_mostByFirst 33 = .ok (.iadd, 1) := by decide +kernel
theorem dX5_mostByFirst_34 : decode cX5_mostByFirst 34 = .ok (.iaload, 1) := by decide +kernel
theorem dX5_mostByFirst_35 : decode cX5_mostByFirst 35 = .ok (.if_icmp .ge 55, 3) := by decide +kernel
theorem dX5_mostByFirst_38 : decode cX5_mostByFirst 38 = .ok (.iload 4, 2) := by decide +kernel
theorem dX5_mostByFirst_40 : decode cX5_mostByFirst 40 = .ok (.iload_n 3, 1) := by decide +kernel
theorem dX5_mostByFirst_41 : decode cX5_mostByFirst 41 = .ok (.if_icmp .ge 49, 3) := by decide +kernel
theorem dX5_mostByFirst_44 : decode cX5_mostByFirst 44 = .ok (.aload_n 0, 1) := by decide +kernel
theorem dX5_mostByFirst_45 : decode cX5_mostByFirst 45 = .ok (.getfield 15, 3) := by decide +kernel
theorem dX5_mostByFirst_48 : decode cX5_mostByFirst 48 = .ok (.iload 5, 2) := by decide +kernel
theorem dX5_mostByFirst_50 : decode cX5_mostByFirst 50 = .ok (.iaload, 1) := by decide +kernel
theorem dX5_mostByFirst_51 : decode cX5_mostByFirst 51 = .ok (.istore 6, 2) := by decide +kernel
theorem dX5_mostByFirst_53 : decode cX5_mostByFirst 53 = .ok (.iload 6, 2) := by decide +kernel
theorem dX5_mostByFirst_55 : decode cX5_mostByFirst 55 = .ok (.iload_n 2, 1) := by decide +kernel
theorem dX5_mostByFirst_56 : decode cX5_mostByFirst 56 = .ok (.iand, 1) := by decide +kernel
theorem dX5_mostByFirst_57 : decode cX5_mostByFirst 57 = .ok (.iload 6, 2) := by decide +kernel
theorem dX5_mostByFirst_59 : decode cX5_mostByFirst 59 = .ok (.if_icmp .ne 25, 3) := by decide +kernel
theorem dX5_mostByFirst_62 : decode cX5_mostByFirst 62 = .ok (.iload 4, 2) := by decide +kernel
theorem dX5_mostByFirst_64 : decode cX5_mostByFirst 64 = .ok (.iconst 1, 1) := by decide +kernel
theorem dX5_mostByFirst_65 : decode cX5_mostByFirst 65 = .ok (.aload_n 0, 1) := by decide +kernel
theorem dX5_mostByFirst_66 : decode cX5_mostByFirst 66 = .ok (.iload_n 1, 1) := by decide +kernel
theorem dX5_mostByFirst_67 : decode cX5_mostByFirst 67 = .ok (.iconst 1, 1) := by decide +kernel
theorem dX5_mostByFirst_68 : decode cX5_mostByFirst 68 = .ok (.iadd, 1) := by decide +kernel
theorem dX5_mostByFirst_69 : decode cX5_mostByFirst 69 = .ok (.iload_n 2, 1) := by decide +kernel
theorem dX5_mostByFirst_70 : decode cX5_mostByFirst 70 = .ok (.iload 6, 2) := by decide +kernel
theorem dX5_mostByFirst_72 : decode cX5_mostByFirst 72 = .ok (.iconst (-1), 1) := by decide +kernel
theorem dX5_mostByFirst_73 : decode cX5_mostByFirst 73 = .ok (.ixor, 1) := by decide +kernel
theorem dX5_mostByFirst_74 : decode cX5_mostByFirst 74 = .ok (.iand, 1) := by decide +kernel
theorem dX5_mostByFirst_75 : decode cX5_mostByFirst 75 = .ok (.invokevirtual 38, 3) := by decide +kernel
theorem dX5_mostByFirst_78 : decode cX5_mostByFirst 78 = .ok (.iadd, 1) := by decide +kernel
theorem dX5_mostByFirst_79 : decode cX5_mostByFirst 79 = .ok (.invokestatic 56, 3) := by decide +kernel
theorem dX5_mostByFirst_82 : decode cX5_mostByFirst 82 = .ok (.istore 4, 2) := by decide +kernel
theorem dX5_mostByFirst_84 : decode cX5_mostByFirst 84 = .ok (.iinc 5 1, 3) := by decide +kernel
theorem dX5_mostByFirst_87 : decode cX5_mostByFirst 87 = .ok (.goto (-62), 3) := by decide +kernel
theorem dX5_mostByFirst_90 : decode cX5_mostByFirst 90 = .ok (.iload 4, 2) := by decide +kernel
theorem dX5_mostByFirst_92 : decode cX5_mostByFirst 92 = .ok (.iload_n 3, 1) := by decide +kernel
theorem dX5_mostByFirst_93 : decode cX5_mostByFirst 93 = .ok (.if_icmp .ge 25, 3) := by decide +kernel
theorem dX5_mostByFirst_96 : decode cX5_mostByFirst 96 = .ok (.iload 4, 2) := by decide +kernel
theorem dX5_mostByFirst_98 : decode cX5_mostByFirst 98 = .ok (.aload_n 0, 1) := by decide +kernel
theorem dX5_mostByFirst_99 : decode cX5_mostByFirst 99 = .ok (.iload_n 1, 1) := by decide +kernel
theorem dX5_mostByFirst_100 : decode cX5_mostByFirst 100 = .ok (.iconst 1, 1) := by decide +kernel
theorem dX5_mostByFirst_101 : decode cX5_mostByFirst 101 = .ok (.iadd, 1) := by decide +kernel
theorem dX5_mostByFirst_102 : decode cX5_mostByFirst 102 = .ok (.iload_n 2, 1) := by decide +kernel
theorem dX5_mostByFirst_103 : decode cX5_mostByFirst 103 = .ok (.iconst 1, 1) := by decide +kernel
theorem dX5_mostByFirst_104 : decode cX5_mostByFirst 104 = .ok (.iload_n 1, 1) := by decide +kernel
theorem dX5_mostByFirst_105 : decode cX5_mostByFirst 105 = .ok (.ishl, 1) := by decide +kernel
theorem dX5_mostByFirst_106 : decode cX5_mostByFirst 106 = .ok (.iconst (-1), 1) := by decide +kernel
theorem dX5_mostByFirst_107 : decode cX5_mostByFirst 107 = .ok (.ixor, 1) := by decide +kernel
theorem dX5_mostByFirst_108 : decode cX5_mostByFirst 108 = .ok (.iand, 1) := by decide +kernel
theorem dX5_mostByFirst_109 : decode cX5_mostByFirst 109 = .ok (.invokevirtual 38, 3) := by decide +kernel
theorem dX5_mostByFirst_112 : decode cX5_mostByFirst 112 = .ok (.invokestatic 56, 3) := by decide +kernel
theorem dX5_mostByFirst_115 : decode cX5_mostByFirst 115 = .ok (.goto 5, 3) := by decide +kernel
theorem dX5_mostByFirst_118 : decode cX5_mostByFirst 118 = .ok (.iload 4, 2) := by decide +kernel
theorem dX5_mostByFirst_120 : decode cX5_mostByFirst 120 = .ok (.ireturn, 1) := by decide +kernel
theorem dX6_init_0 : decode cX6_init 0 = .ok (.aload_n 0, 1) := by decide +kernel
theorem dX6_init_1 : decode cX6_init 1 = .ok (.invokespecial 3, 3) := by decide +kernel
theorem dX6_init_4 : decode cX6_init 4 = .ok (.aload_n 0, 1) := by decide +kernel
theorem dX6_init_5 : decode cX6_init 5 = .ok (.bipush (-2), 2) := by decide +kernel
theorem dX6_init_7 : decode cX6_init 7 = .ok (.putfield 9, 3) := by decide +kernel
theorem dX6_init_10 : decode cX6_init 10 = .ok (.aload_n 0, 1) := by decide +kernel
theorem dX6_init_11 : decode cX6_init 11 = .ok (.bipush 9, 2) := by decide +kernel
theorem dX6_init_13 : decode cX6_init 13 = .ok (.putfield 15, 3) := by decide +kernel
theorem dX6_init_16 : decode cX6_init 16 = .ok (.aload_n 0, 1) := by decide +kernel
theorem dX6_init_17 : decode cX6_init 17 = .ok (.iload_n 1, 1) := by decide +kernel
theorem dX6_init_18 : decode cX6_init 18 = .ok (.putfield 18, 3) := by decide +kernel
theorem dX6_init_21 : decode cX6_init 21 = .ok (.aload_n 0, 1) := by decide +kernel
theorem dX6_init_22 : decode cX6_init 22 = .ok (.iload_n 2, 1) := by decide +kernel
theorem dX6_init_23 : decode cX6_init 23 = .ok (.putfield 21, 3) := by decide +kernel
theorem dX6_init_26 : decode cX6_init 26 = .ok (.aload_n 0, 1) := by decide +kernel
theorem dX6_init_27 : decode cX6_init 27 = .ok (.iload_n 3, 1) := by decide +kernel
theorem dX6_init_28 : decode cX6_init 28 = .ok (.iconst 1, 1) := by decide +kernel
theorem dX6_init_29 : decode cX6_init 29 = .ok (.iconst 4, 1) := by decide +kernel
theorem dX6_init_30 : decode cX6_init 30 = .ok (.invokestatic 24, 3) := by decide +kernel
theorem dX6_init_33 : decode cX6_init 33 = .ok (.ifCond .eq 7, 3) := by decide +kernel
theorem dX6_init_36 : decode cX6_init 36 = .ok (.iload_n 3, 1) := by decide +kernel
theorem dX6_init_37 : decode cX6_init 37 = .ok (.goto 4, 3) := by decide +kernel
theorem dX6_init_40 : decode cX6_init 40 = .ok (.iconst 4, 1) := by decide +kernel
theorem dX6_init_41 : decode cX6_init 41 = .ok (.newarray .int, 2) := by decide +kernel
theorem dX6_init_43 : decode cX6_init 43 = .ok (.putfield 28, 3) := by decide +kernel
theorem dX6_init_46 : decode cX6_init 46 = .ok (.return_, 1) := by decide +kernel
theorem dX6_take_0 : decode cX6_take 0 = .ok (.aload_n 0, 1) := by decide +kernel
theorem dX6_take_1 : decode cX6_take 1 = .ok (.getfield 32, 3) := by decide +kernel
theorem dX6_take_4 : decode cX6_take 4 = .ok (.aload_n 0, 1) := by decide +kernel
theorem dX6_take_5 : decode cX6_take 5 = .ok (.getfield 28, 3) := by decide +kernel
theorem dX6_take_8 : decode cX6_take 8 = .ok (.arraylength, 1) := by decide +kernel
theorem dX6_take_9 : decode cX6_take 9 = .ok (.if_icmp .ge 57, 3) := by decide +kernel
theorem dX6_take_12 : decode cX6_take 12 = .ok (.aload_n 0, 1) := by decide +kernel
theorem dX6_take_13 : decode cX6_take 13 = .ok (.getfield 28, 3) := by decide +kernel
theorem dX6_take_16 : decode cX6_take 16 = .ok (.aload_n 0, 1) := by decide +kernel
theorem dX6_take_17 : decode cX6_take 17 = .ok (.getfield 32, 3) := by decide +kernel
theorem dX6_take_20 : decode cX6_take 20 = .ok (.iload_n 1, 1) := by decide +kernel
theorem dX6_take_21 : decode cX6_take 21 = .ok (.iastore, 1) := by decide +kernel
theorem dX6_take_22 : decode cX6_take 22 = .ok (.aload_n 0, 1) := by decide +kernel
theorem dX6_take_23 : decode cX6_take 23 = .ok (.dup, 1) := by decide +kernel
theorem dX6_take_24 : decode cX6_take 24 = .ok (.getfield 32, 3) := by decide +kernel
theorem dX6_take_27 : decode cX6_take 27 = .ok (.iconst 1, 1) := by decide +kernel
theorem dX6_take_28 : decode cX6_take 28 = .ok (.iadd, 1) := by decide +kernel
theorem dX6_take_29 : decode cX6_take 29 = .ok (.putfield 32, 3) := by decide +kernel
theorem dX6_take_32 : decode cX6_take 32 = .ok (.aload_n 0, 1) := by decide +kernel
theorem dX6_take_33 : decode cX6_take 33 = .ok (.aload_n 0, 1) := by decide +kernel
theorem dX6_take_34 : decode cX6_take 34 = .ok (.getfield 35, 3) := by decide +kernel
theorem dX6_take_37 : decode cX6_take 37 = .ok (.iload_n 2, 1) := by decide +kernel
theorem dX6_take_38 : decode cX6_take 38 = .ok (.invokestatic 38, 3) := by decide +kernel
theorem dX6_take_41 : decode cX6_take 41 = .ok (.putfield 35, 3) := by decide +kernel
theorem dX6_take_44 : decode cX6_take 44 = .ok (.aload_n 0, 1) := by decide +kernel
theorem dX6_take_45 : decode cX6_take 45 = .ok (.aload_n 0, 1) := by decide +kernel
theorem dX6_take_46 : decode cX6_take 46 = .ok (.getfield 15, 3) := by decide +kernel
theorem dX6_take_49 : decode cX6_take 49 = .ok (.iload_n 3, 1) := by decide +kernel
theorem dX6_take_50 : decode cX6_take 50 = .ok (.invokestatic 44, 3) := by decide +kernel
theorem dX6_take_53 : decode cX6_take 53 = .ok (.putfield 15, 3) := by decide +kernel
theorem dX6_take_56 : decode cX6_take 56 = .ok (.aload_n 0, 1) := by decide +kernel
theorem dX6_take_57 : decode cX6_take 57 = .ok (.dup, 1) := by decide +kernel
theorem dX6_take_58 : decode cX6_take 58 = .ok (.getfield 47, 3) := by decide +kernel
theorem dX6_take_61 : decode cX6_take 61 = .ok (.iload_n 3, 1) := by decide +kernel
theorem dX6_take_62 : decode cX6_take 62 = .ok (.iadd, 1) := by decide +kernel
theorem dX6_take_63 : decode cX6_take 63 = .ok (.putfield 47, 3) := by decide +kernel
theorem dX6_take_66 : decode cX6_take 66 = .ok (.return_, 1) := by decide +kernel
theorem dX6_size_0 : decode cX6_size 0 = .ok (.aload_n 0, 1) := by decide +kernel
theorem dX6_size_1 : decode cX6_size 1 = .ok (.getfield 32, 3) := by decide +kernel
theorem dX6_size_4 : decode cX6_size 4 = .ok (.ireturn, 1) := by decide +kernel
theorem dX6_partAt_0 : decode cX6_partAt 0 = .ok (.iload_n 1, 1) := by decide +kernel
theorem dX6_partAt_1 : decode cX6_partAt 1 = .ok (.ifCond .lt 21, 3) := by decide +kernel
theorem dX6_partAt_4 : decode cX6_partAt 4 = .ok (.iload_n 1, 1) := by decide +kernel
theorem dX6_partAt_5 : decode cX6_partAt 5 = .ok (.aload_n 0, 1) := by decide +kernel
theorem dX6_partAt_6 : decode cX6_partAt 6 = .ok (.getfield 28, 3) := by decide +kernel
theorem dX6_partAt_9 : decode cX6_partAt 9 = .ok (.arraylength, 1) := by decide +kernel
theorem dX6_partAt_10 : decode cX6_partAt 10 = .ok (.if_icmp .ge 12, 3) := by decide +kernel
theorem dX6_partAt_13 : decode cX6_partAt 13 = .ok (.aload_n 0, 1) := by decide +kernel
theorem dX6_partAt_14 : decode cX6_partAt 14 = .ok (.getfield 28, 3) := by decide +kernel
theorem dX6_partAt_17 : decode cX6_partAt 17 = .ok (.iload_n 1, 1) := by decide +kernel
theorem dX6_partAt_18 : decode cX6_partAt 18 = .ok (.iaload, 1) := by decide +kernel
theorem dX6_partAt_19 : decode cX6_partAt 19 = .ok (.goto 4, 3) := by decide +kernel
theorem dX6_partAt_22 : decode cX6_partAt 22 = .ok (.iconst (-1), 1) := by decide +kernel
theorem dX6_partAt_23 : decode cX6_partAt 23 = .ok (.ireturn, 1) := by decide +kernel
theorem dX6_grade_0 : decode cX6_grade 0 = .ok (.aload_n 0, 1) := by decide +kernel
theorem dX6_grade_1 : decode cX6_grade 1 = .ok (.getfield 35, 3) := by decide +kernel
theorem dX6_grade_4 : decode cX6_grade 4 = .ok (.iconst 2, 1) := by decide +kernel
theorem dX6_grade_5 : decode cX6_grade 5 = .ok (.if_icmp .gt 14, 3) := by decide +kernel
theorem dX6_grade_8 : decode cX6_grade 8 = .ok (.aload_n 0, 1) := by decide +kernel
theorem dX6_grade_9 : decode cX6_grade 9 = .ok (.getfield 15, 3) := by decide +kernel
theorem dX6_grade_12 : decode cX6_grade 12 = .ok (.bipush 7, 2) := by decide +kernel
theorem dX6_grade_14 : decode cX6_grade 14 = .ok (.if_icmp .lt 5, 3) := by decide +kernel
theorem dX6_grade_17 : decode cX6_grade 17 = .ok (.iconst 1, 1) := by decide +kernel
theorem dX6_grade_18 : decode cX6_grade 18 = .ok (.ireturn, 1) := by decide +kernel
theorem dX6_grade_19 : decode cX6_grade 19 = .ok (.aload_n 0, 1) := by decide +kernel
theorem dX6_grade_20 : decode cX6_grade 20 = .ok (.getfield 35, 3) := by decide +kernel
theorem dX6_grade_23 : decode cX6_grade 23 = .ok (.iconst 4, 1) := by decide +kernel
theorem dX6_grade_24 : decode cX6_grade 24 = .ok (.if_icmp .gt 13, 3) := by decide +kernel
theorem dX6_grade_27 : decode cX6_grade 27 = .ok (.aload_n 0, 1) := by decide +kernel
theorem dX6_grade_28 : decode cX6_grade 28 = .ok (.getfield 15, 3) := by decide +kernel
theorem dX6_grade_31 : decode cX6_grade 31 = .ok (.iconst 4, 1) := by decide +kernel
theorem dX6_grade_32 : decode cX6_grade 32 = .ok (.if_icmp .lt 5, 3) := by decide +kernel
theorem dX6_grade_35 : decode cX6_grade 35 = .ok (.iconst 2, 1) := by decide +kernel
theorem dX6_grade_36 : decode cX6_grade 36 = .ok (.ireturn, 1) := by decide +kernel
theorem dX6_grade_37 : decode cX6_grade 37 = .ok (.aload_n 0, 1) := by decide +kernel
theorem dX6_grade_38 : decode cX6_grade 38 = .ok (.getfield 35, 3) := by decide +kernel
theorem dX6_grade_41 : decode cX6_grade 41 = .ok (.bipush 6, 2) := by decide +kernel
theorem dX6_grade_43 : decode cX6_grade 43 = .ok (.if_icmp .gt 7, 3) := by decide +kernel
theorem dX6_grade_46 : decode cX6_grade 46 = .ok (.iconst 3, 1) := by decide +kernel
theorem dX6_grade_47 : decode cX6_grade 47 = .ok (.goto 4, 3) := by decide +kernel
theorem dX6_grade_50 : decode cX6_grade 50 = .ok (.iconst 4, 1) := by decide +kernel
theorem dX6_grade_51 : decode cX6_grade 51 = .ok (.ireturn, 1) := by decide +kernel
theorem dX6_isLoose_0 : decode cX6_isLoose 0 = .ok (.aload_n 0, 1) := by decide +kernel
theorem dX6_isLoose_1 : decode cX6_isLoose 1 = .ok (.getfield 9, 3) := by decide +kernel
theorem dX6_isLoose_4 : decode cX6_isLoose 4 = .ok (.bipush (-2), 2) := by decide +kernel
theorem dX6_isLoose_6 : decode cX6_isLoose 6 = .ok (.if_icmp .ne 23, 3) := by decide +kernel
theorem dX6_isLoose_9 : decode cX6_isLoose 9 = .ok (.aload_n 0, 1) := by decide +kernel
theorem dX6_isLoose_10 : decode cX6_isLoose 10 = .ok (.getfield 18, 3) := by decide +kernel
theorem dX6_isLoose_13 : decode cX6_isLoose 13 = .ok (.iload_n 1, 1) := by decide +kernel
theorem dX6_isLoose_14 : decode cX6_isLoose 14 = .ok (.if_icmp .ne 15, 3) := by decide +kernel
theorem dX6_isLoose_17 : decode cX6_isLoose 17 = .ok (.aload_n 0, 1) := by decide +kernel
theorem dX6_isLoose_18 : decode cX6_isLoose 18 = .ok (.invokevirtual 50, 3) := by decide +kernel
theorem dX6_isLoose_21 : decode cX6_isLoose 21 = .ok (.iload_n 2, 1) := by decide +kernel
theorem dX6_isLoose_22 : decode cX6_isLoose 22 = .ok (.if_icmp .ne 7, 3) := by decide +kernel
theorem dX6_isLoose_25 : decode cX6_isLoose 25 = .ok (.iconst 1, 1) := by decide +kernel
theorem dX6_isLoose_26 : decode cX6_isLoose 26 = .ok (.goto 4, 3) := by decide +kernel
theorem dX6_isLoose_29 : decode cX6_isLoose 29 = .ok (.iconst 0, 1) := by decide +kernel
theorem dX6_isLoose_30 : decode cX6_isLoose 30 = .ok (.ireturn, 1) := by decide +kernel
theorem dX7_init_0 : decode cX7_init 0 = .ok (.aload_n 0, 1) := by decide +kernel
theorem dX7_init_1 : decode cX7_init 1 = .ok (.invokespecial 3, 3) := by decide +kernel
theorem dX7_init_4 : decode cX7_init 4 = .ok (.aload_n 0, 1) := by decide +kernel
theorem dX7_init_5 : decode cX7_init 5 = .ok (.bipush (-2), 2) := by decide +kernel
theorem dX7_init_7 : decode cX7_init 7 = .ok (.putfield 9, 3) := by decide +kernel
theorem dX7_init_10 : decode cX7_init 10 = .ok (.aload_n 0, 1) := by decide +kernel
theorem dX7_init_11 : decode cX7_init 11 = .ok (.iload_n 1, 1) := by decide +kernel
theorem dX7_init_12 : decode cX7_init 12 = .ok (.putfield 15, 3) := by decide +kernel
theorem dX7_init_15 : decode cX7_init 15 = .ok (.aload_n 0, 1) := by decide +kernel
theorem dX7_init_16 : decode cX7_init 16 = .ok (.iload_n 2, 1) := by decide +kernel
theorem dX7_init_17 : decode cX7_init 17 = .ok (.putfield 18, 3) := by decide +kernel
theorem dX7_init_20 : decode cX7_init 20 = .ok (.aload_n 0, 1) := by decide +kernel
theorem dX7_init_21 : decode cX7_init 21 = .ok (.iload_n 3, 1) := by decide +kernel
theorem dX7_init_22 : decode cX7_init 22 = .ok (.putfield 21, 3) := by decide +kernel
theorem dX7_init_25 : decode cX7_init 25 = .ok (.aload_n 0, 1) := by decide +kernel
theorem dX7_init_26 : decode cX7_init 26 = .ok (.iload 4, 2) := by decide +kernel
theorem dX7_init_28 : decode cX7_init 28 = .ok (.putfield 24, 3) := by decide +kernel
theorem dX7_init_31 : decode cX7_init 31 = .ok (.aload_n 0, 1) := by decide +kernel
theorem dX7_init_32 : decode cX7_init 32 = .ok (.iload 5, 2) := by decide +kernel
theorem dX7_init_34 : decode cX7_init 34 = .ok (.putfield 27, 3) := by decide +kernel
theorem dX7_init_37 : decode cX7_init 37 = .ok (.aload_n 0, 1) := by decide +kernel
theorem dX7_init_38 : decode cX7_init 38 = .ok (.iload 6, 2) := by decide +kernel
theorem dX7_init_40 : decode cX7_init 40 = .ok (.putfield 30, 3) := by decide +kernel
theorem dX7_init_43 : decode cX7_init 43 = .ok (.return_, 1) := by decide +kernel
theorem dX8_init_0 : decode cX8_init 0 = .ok (.aload_n 0, 1) := by decide +kernel
theorem dX8_init_1 : decode cX8_init 1 = .ok (.invokespecial 3, 3) := by decide +kernel
theorem dX8_init_4 : decode cX8_init 4 = .ok (.aload_n 0, 1) := by decide +kernel
theorem dX8_init_5 : decode cX8_init 5 = .ok (.sipush 3001, 3) := by decide +kernel
theorem dX8_init_8 : decode cX8_init 8 = .ok (.newarray .boolean, 2) := by decide +kernel
theorem dX8_init_10 : decode cX8_init 10 = .ok (.putfield 9, 3) := by decide +kernel
theorem dX8_init_13 : decode cX8_init 13 = .ok (.return_, 1) := by decide +kernel
theorem dX8_tell_0 : decode cX8_tell 0 = .ok (.iload_n 1, 1) := by decide +kernel
theorem dX8_tell_1 : decode cX8_tell 1 = .ok (.ifCond .lt 19, 3) := by decide +kernel
theorem dX8_tell_4 : decode cX8_tell 4 = .ok (.iload_n 1, 1) := by decide +kernel
theorem dX8_tell_5 : decode cX8_tell 5 = .ok (.aload_n 0, 1) := by decide +kernel
theorem dX8_tell_6 : decode cX8_tell 6 = .ok (.getfield 9, 3) := by decide +kernel
theorem dX8_tell_9 : decode cX8_tell 9 = .ok (.arraylength, 1) := by decide +kernel
theorem dX8_tell_10 : decode cX8_tell 10 = .ok (.if_icmp .ge 10, 3) := by decide +kernel
theorem dX8_tell_13 : decode cX8_tell 13 = .ok (.aload_n 0, 1) := by decide +kernel
theorem dX8_tell_14 : decode cX8_tell 14 = .ok (.getfield 9, 3) := by decide +kernel
theorem dX8_tell_17 : decode cX8_tell 17 = .ok (.iload_n 1, 1) := by decide +kernel
theorem dX8_tell_18 : decode cX8_tell 18 = .ok (.iload_n 2, 1) := by decide +kernel
theorem dX8_tell_19 : decode cX8_tell 19 = .ok (.bastore, 1) := by decide +kernel
theorem dX8_tell_20 : decode cX8_tell 20 = .ok (.return_, 1) := by decide +kernel
theorem dX8_endOfDryDays_0 : decode cX8_endOfDryDays 0 = .ok (.iconst 0, 1) := by decide +kernel
theorem dX8_endOfDryDays_1 : decode cX8_endOfDryDays 1 = .ok (.istore_n 3, 1) := by decide +kernel
theorem dX8_endOfDryDays_2 : decode cX8_endOfDryDays 2 = .ok (.iload_n 1, 1) := by decide +kernel
theorem dX8_endOfDryDays_3 : decode cX8_endOfDryDays 3 = .ok (.iconst 0, 1) := by decide +kernel
theorem dX8_endOfDryDays_4 : decode cX8_endOfDryDays 4 = .ok (.invokestatic 15, 3) := by decide +kernel
theorem dX8_endOfDryDays_7 : decode cX8_endOfDryDays 7 = .ok (.iconst 1, 1) := by decide +kernel
theorem dX8_endOfDryDays_8 : decode cX8_endOfDryDays 8 = .ok (.iadd, 1) := by decide +kernel
theorem dX8_endOfDryDays_9 : decode cX8_endOfDryDays 9 = .ok (.istore 4, 2) := by decide +kernel
theorem dX8_endOfDryDays_11 : decode cX8_endOfDryDays 11 = .ok (.iload 4, 2) := by decide +kernel
theorem dX8_endOfDryDays_13 : decode cX8_endOfDryDays 13 = .ok (.aload_n 0, 1) := by decide +kernel
theorem dX8_endOfDryDays_14 : decode cX8_endOfDryDays 14 = .ok (.getfield 9, 3) := by decide +kernel
theorem dX8_endOfDryDays_17 : decode cX8_endOfDryDays 17 = .ok (.arraylength, 1) := by decide +kernel
theorem dX8_endOfDryDays_18 : decode cX8_endOfDryDays 18 = .ok (.if_icmp .ge 30, 3) := by decide +kernel
theorem dX8_endOfDryDays_21 : decode cX8_endOfDryDays 21 = .ok (.aload_n 0, 1) := by decide +kernel
theorem dX8_endOfDryDays_22 : decode cX8_endOfDryDays 22 = .ok (.getfield 9, 3) := by decide +kernel
theorem dX8_endOfDryDays_25 : decode cX8_endOfDryDays 25 = .ok (.iload 4, 2) := by decide +kernel
theorem dX8_endOfDryDays_27 : decode cX8_endOfDryDays 27 = .ok (.baload, 1) := by decide +kernel
theorem dX8_endOfDryDays_28 : decode cX8_endOfDryDays 28 = .ok (.ifCond .ne 6, 3) := by decide +kernel
theorem dX8_endOfDryDays_31 : decode cX8_endOfDryDays 31 = .ok (.iinc 3 1, 3) := by decide +kernel
theorem dX8_endOfDryDays_34 : decode cX8_endOfDryDays 34 = .ok (.iload_n 3, 1) := by decide +kernel
theorem dX8_endOfDryDays_35 : decode cX8_endOfDryDays 35 = .ok (.iload_n 2, 1) := by decide +kernel
theorem dX8_endOfDryDays_36 : decode cX8_endOfDryDays 36 = .ok (.if_icmp .lt 6, 3) := by decide +kernel
theorem dX8_endOfDryDays_39 : decode cX8_endOfDryDays 39 = .ok (.iload 4, 2) := by decide +kernel
theorem dX8_endOfDryDays_41 : decode cX8_endOfDryDays 41 = .ok (.ireturn, 1) := by decide +kernel
theorem dX8_endOfDryDays_42 : decode cX8_endOfDryDays 42 = .ok (.iinc 4 1, 3) := by decide +kernel
theorem dX8_endOfDryDays_45 : decode cX8_endOfDryDays 45 = .ok (.goto (-34), 3) := by decide +kernel
theorem dX8_endOfDryDays_48 : decode cX8_endOfDryDays 48 = .ok (.bipush (-2), 2) := by decide +kernel
theorem dX8_endOfDryDays_50 : decode cX8_endOfDryDays 50 = .ok (.ireturn, 1) := by decide +kernel
theorem dX9_init_0 : decode cX9_init 0 = .ok (.aload_n 0, 1) := by decide +kernel
theorem dX9_init_1 : decode cX9_init 1 = .ok (.invokespecial 1, 3) := by decide +kernel
theorem dX9_init_4 : decode cX9_init 4 = .ok (.aload_n 0, 1) := by decide +kernel
theorem dX9_init_5 : decode cX9_init 5 = .ok (.new 7, 3) := by decide +kernel
theorem dX9_init_8 : decode cX9_init 8 = .ok (.dup, 1) := by decide +kernel
theorem dX9_init_9 : decode cX9_init 9 = .ok (.invokespecial 9, 3) := by decide +kernel
theorem dX9_init_12 : decode cX9_init 12 = .ok (.putfield 10, 3) := by decide +kernel
theorem dX9_init_15 : decode cX9_init 15 = .ok (.aload_n 0, 1) := by decide +kernel
theorem dX9_init_16 : decode cX9_init 16 = .ok (.new 7, 3) := by decide +kernel
theorem dX9_init_19 : decode cX9_init 19 = .ok (.dup, 1) := by decide +kernel
theorem dX9_init_20 : decode cX9_init 20 = .ok (.invokespecial 9, 3) := by decide +kernel
theorem dX9_init_23 : decode cX9_init 23 = .ok (.putfield 16, 3) := by decide +kernel
theorem dX9_init_26 : decode cX9_init 26 = .ok (.aload_n 0, 1) := by decide +kernel
theorem dX9_init_27 : decode cX9_init 27 = .ok (.new 7, 3) := by decide +kernel
theorem dX9_init_30 : decode cX9_init 30 = .ok (.dup, 1) := by decide +kernel
theorem dX9_init_31 : decode cX9_init 31 = .ok (.invokespecial 9, 3) := by decide +kernel
theorem dX9_init_34 : decode cX9_init 34 = .ok (.putfield 19, 3) := by decide +kernel
theorem dX9_init_37 : decode cX9_init 37 = .ok (.aload_n 0, 1) := by decide +kernel
theorem dX9_init_38 : decode cX9_init 38 = .ok (.new 7, 3) := by decide +kernel
theorem dX9_init_41 : decode cX9_init 41 = .ok (.dup, 1) := by decide +kernel
theorem dX9_init_42 : decode cX9_init 42 = .ok (.invokespecial 9, 3) := by decide +kernel
theorem dX9_init_45 : decode cX9_init 45 = .ok (.putfield 22, 3) := by decide +kernel
theorem dX9_init_48 : decode cX9_init 48 = .ok (.aload_n 0, 1) := by decide +kernel
theorem dX9_init_49 : decode cX9_init 49 = .ok (.new 7, 3) := by decide +kernel
theorem dX9_init_52 : decode cX9_init 52 = .ok (.dup, 1) := by decide +kernel
theorem dX9_init_53 : decode cX9_init 53 = .ok (.invokespecial 9, 3) := by decide +kernel
theorem dX9_init_56 : decode cX9_init 56 = .ok (.putfield 25, 3) := by decide +kernel
theorem dX9_init_59 : decode cX9_init 59 = .ok (.aload_n 0, 1) := by decide +kernel
theorem dX9_init_60 : decode cX9_init 60 = .ok (.new 7, 3) := by decide +kernel
theorem dX9_init_63 : decode cX9_init 63 = .ok (.dup, 1) := by decide +kernel
theorem dX9_init_64 : decode cX9_init 64 = .ok (.invokespecial 9, 3) := by decide +kernel
theorem dX9_init_67 : decode cX9_init 67 = .ok (.putfield 28, 3) := by decide +kernel
theorem dX9_init_70 : decode cX9_init 70 = .ok (.aload_n 0, 1) := by decide +kernel
theorem dX9_init_71 : decode cX9_init 71 = .ok (.new 31, 3) := by decide +kernel
theorem dX9_init_74 : decode cX9_init 74 = .ok (.dup, 1) := by decide +kernel
theorem dX9_init_75 : decode cX9_init 75 = .ok (.invokespecial 33, 3) := by decide +kernel
theorem dX9_init_78 : decode cX9_init 78 = .ok (.putfield 34, 3) := by decide +kernel
theorem dX9_init_81 : decode cX9_init 81 = .ok (.aload_n 0, 1) := by decide +kernel
theorem dX9_init_82 : decode cX9_init 82 = .ok (.new 38, 3) := by decide +kernel
theorem dX9_init_85 : decode cX9_init 85 = .ok (.dup, 1) := by decide +kernel
theorem dX9_init_86 : decode cX9_init 86 = .ok (.invokespecial 40, 3) := by decide +kernel
theorem dX9_init_89 : decode cX9_init 89 = .ok (.putfield 41, 3) := by decide +kernel
theorem dX9_init_92 : decode cX9_init 92 = .ok (.aload_n 0, 1) := by decide +kernel
theorem dX9_init_93 : decode cX9_init 93 = .ok (.new 45, 3) := by decide +kernel
theorem dX9_init_96 : decode cX9_init 96 = .ok (.dup, 1) := by decide +kernel
theorem dX9_init_97 : decode cX9_init 97 = .ok (.invokespecial 47, 3) := by decide +kernel
theorem dX9_init_100 : decode cX9_init 100 = .ok (.putfield 48, 3) := by decide +kernel
theorem dX9_init_103 : decode cX9_init 103 = .ok (.aload_n 0, 1) := by decide +kernel
theorem dX9_init_104 : decode cX9_init 104 = .ok (.iconst 5, 1) := by decide +kernel
theorem dX9_init_105 : decode cX9_init 105 = .ok (.newarray .int, 2) := by decide +kernel
theorem dX9_init_107 : decode cX9_init 107 = .ok (.dup, 1) := by decide +kernel
theorem dX9_init_108 : decode cX9_init 108 = .ok (.iconst 0, 1) := by decide +kernel
theorem dX9_init_109 : decode cX9_init 109 = .ok (.iconst 0, 1) := by decide +kernel
theorem dX9_init_110 : decode cX9_init 110 = .ok (.iastore, 1) := by decide +kernel
theorem dX9_init_111 : decode cX9_init 111 = .ok (.dup, 1) := by decide +kernel
theorem dX9_init_112 : decode cX9_init 112 = .ok (.iconst 1, 1) := by decide +kernel
theorem dX9_init_113 : decode cX9_init 113 = .ok (.bipush 100, 2) := by decide +kernel
theorem dX9_init_115 : decode cX9_init 115 = .ok (.iastore, 1) := by decide +kernel
theorem dX9_init_116 : decode cX9_init 116 = .ok (.dup, 1) := by decide +kernel
theorem dX9_init_117 : decode cX9_init 117 = .ok (.iconst 2, 1) := by decide +kernel
theorem dX9_init_118 : decode cX9_init 118 = .ok (.bipush 100, 2) := by decide +kernel
theorem dX9_init_120 : decode cX9_init 120 = .ok (.iastore, 1) := by decide +kernel
theorem dX9_init_121 : decode cX9_init 121 = .ok (.dup, 1) := by decide +kernel
theorem dX9_init_122 : decode cX9_init 122 = .ok (.iconst 3, 1) := by decide +kernel
theorem dX9_init_123 : decode cX9_init 123 = .ok (.bipush 100, 2) := by decide +kernel
theorem dX9_init_125 : decode cX9_init 125 = .ok (.iastore, 1) := by decide +kernel
theorem dX9_init_126 : decode cX9_init 126 = .ok (.dup, 1) := by decide +kernel
theorem dX9_init_127 : decode cX9_init 127 = .ok (.iconst 4, 1) := by decide +kernel
theorem dX9_init_128 : decode cX9_init 128 = .ok (.bipush 100, 2) := by decide +kernel
theorem dX9_init_130 : decode cX9_init 130 = .ok (.iastore, 1) := by decide +kernel
theorem dX9_init_131 : decode cX9_init 131 = .ok (.putfield 52, 3) := by decide +kernel
theorem dX9_init_134 : decode cX9_init 134 = .ok (.aload_n 0, 1) := by decide +kernel
theorem dX9_init_135 : decode cX9_init 135 = .ok (.bipush 42, 2) := by decide +kernel
theorem dX9_init_137 : decode cX9_init 137 = .ok (.putfield 56, 3) := by decide +kernel
theorem dX9_init_140 : decode cX9_init 140 = .ok (.aload_n 0, 1) := by decide +kernel
theorem dX9_init_141 : decode cX9_init 141 = .ok (.iconst 2, 1) := by decide +kernel
theorem dX9_init_142 : decode cX9_init 142 = .ok (.putfield 60, 3) := by decide +kernel
theorem dX9_init_145 : decode cX9_init 145 = .ok (.aload_n 0, 1) := by decide +kernel
theorem dX9_init_146 : decode cX9_init 146 = .ok (.iconst 0, 1) := by decide +kernel
theorem dX9_init_147 : decode cX9_init 147 = .ok (.putfield 63, 3) := by decide +kernel
theorem dX9_init_150 : decode cX9_init 150 = .ok (.aload_n 0, 1) := by decide +kernel
theorem dX9_init_151 : decode cX9_init 151 = .ok (.iconst 0, 1) := by decide +kernel
theorem dX9_init_152 : decode cX9_init 152 = .ok (.putfield 66, 3) := by decide +kernel
theorem dX9_init_155 : decode cX9_init 155 = .ok (.return_, 1) := by decide +kernel
theorem dX9_family_0 : decode cX9_family 0 = .ok (.iload_n 1, 1) := by decide +kernel
theorem dX9_family_1 : decode cX9_family 1 = .ok (.iconst 0, 1) := by decide +kernel
theorem dX9_family_2 : decode cX9_family 2 = .ok (.bipush 20, 2) := by decide +kernel
theorem dX9_family_4 : decode cX9_family 4 = .ok (.invokestatic 69, 3) := by decide +kernel
theorem dX9_family_7 : decode cX9_family 7 = .ok (.ifCond .ne 9, 3) := by decide +kernel
theorem dX9_family_10 : decode cX9_family 10 = .ok (.aload_n 0, 1) := by decide +kernel
theorem dX9_family_11 : decode cX9_family 11 = .ok (.iconst 2, 1) := by decide +kernel
theorem dX9_family_12 : decode cX9_family 12 = .ok (.invokevirtual 73, 3) := by decide +kernel
theorem dX9_family_15 : decode cX9_family 15 = .ok (.ireturn, 1) := by decide +kernel
theorem dX9_family_16 : decode cX9_family 16 = .ok (.aload_n 0, 1) := by decide +kernel
theorem dX9_family_17 : decode cX9_family 17 = .ok (.getfield 10, 3) := by decide +kernel
theorem dX9_family_20 : decode cX9_family 20 = .ok (.invokevirtual 77, 3) := by decide +kernel
theorem dX9_family_23 : decode cX9_family 23 = .ok (.bipush 8, 2) := by decide +kernel
theorem dX9_family_25 : decode cX9_family 25 = .ok (.if_icmp .lt 9, 3) := by decide +kernel
theorem dX9_family_28 : decode cX9_family 28 = .ok (.aload_n 0, 1) := by decide +kernel
theorem dX9_family_29 : decode cX9_family 29 = .ok (.iconst 3, 1) := by decide +kernel
theorem dX9_family_30 : decode cX9_family 30 = .ok (.invokevirtual 73, 3) := by decide +kernel
theorem dX9_family_33 : decode cX9_family 33 = .ok (.ireturn, 1) := by decide +kernel
theorem dX9_family_34 : decode cX9_family 34 = .ok (.aload_n 0, 1) := by decide +kernel
theorem dX9_family_35 : decode cX9_family 35 = .ok (.getfield 10, 3) := by decide +kernel
theorem dX9_family_38 : decode cX9_family 38 = .ok (.new 81, 3) := by decide +kernel
theorem dX9_family_41 : decode cX9_family 41 = .ok (.dup, 1) := by decide +kernel
theorem dX9_family_42 : decode cX9_family 42 = .ok (.iload_n 1, 1) := by decide +kernel
theorem dX9_family_43 : decode cX9_family 43 = .ok (.invokespecial 83, 3) := by decide +kernel
theorem dX9_family_46 : decode cX9_family 46 = .ok (.invokevirtual 86, 3) := by decide +kernel
theorem dX9_family_49 : decode cX9_family 49 = .ok (.pop, 1) := by decide +kernel
theorem dX9_family_50 : decode cX9_family 50 = .ok (.aload_n 0, 1) := by decide +kernel
theorem dX9_family_51 : decode cX9_family 51 = .ok (.aload_n 0, 1) := by decide +kernel
theorem dX9_family_52 : decode cX9_family 52 = .ok (.getfield 10, 3) := by decide +kernel
theorem dX9_family_55 : decode cX9_family 55 = .ok (.invokevirtual 77, 3) := by decide +kernel
theorem dX9_family_58 : decode cX9_family 58 = .ok (.iconst 1, 1) := by decide +kernel
theorem dX9_family_59 : decode cX9_family 59 = .ok (.isub, 1) := by decide +kernel
theorem dX9_family_60 : decode cX9_family 60 = .ok (.invokevirtual 90, 3) := by decide +kernel
theorem dX9_family_63 : decode cX9_family 63 = .ok (.ireturn, 1) := by decide +kernel
theorem dX9_garden_0 : decode cX9_garden 0 = .ok (.iload_n 1, 1) := by decide +kernel
theorem dX9_garden_1 : decode cX9_garden 1 = .ok (.iconst (-1), 1) := by decide +kernel
theorem dX9_garden_2 : decode cX9_garden 2 = .ok (.if_icmp .eq 17, 3) := by decide +kernel
theorem dX9_garden_5 : decode cX9_garden 5 = .ok (.aload_n 0, 1) := by decide +kernel
theorem dX9_garden_6 : decode cX9_garden 6 = .ok (.iload_n 1, 1) := by decide +kernel
theorem dX9_garden_7 : decode cX9_garden 7 = .ok (.invokevirtual 93, 3) := by decide +kernel
theorem dX9_garden_10 : decode cX9_garden 10 = .ok (.ifCond .ne 9, 3) := by decide +kernel
theorem dX9_garden_13 : decode cX9_garden 13 = .ok (.aload_n 0, 1) := by decide +kernel
theorem dX9_garden_14 : decode cX9_garden 14 = .ok (.iconst 1, 1) := by decide +kernel
theorem dX9_garden_15 : decode cX9_garden 15 = .ok (.invokevirtual 73, 3) := by decide +kernel
theorem dX9_garden_18 : decode cX9_garden 18 = .ok (.ireturn, 1) := by decide +kernel
theorem dX9_garden_19 : decode cX9_garden 19 = .ok (.aload_n 0, 1) := by decide +kernel
theorem dX9_garden_20 : decode cX9_garden 20 = .ok (.getfield 16, 3) := by decide +kernel
theorem dX9_garden_23 : decode cX9_garden 23 = .ok (.invokevirtual 77, 3) := by decide +kernel
theorem dX9_garden_26 : decode cX9_garden 26 = .ok (.bipush 12, 2) := by decide +kernel
theorem dX9_garden_28 : decode cX9_garden 28 = .ok (.if_icmp .lt 9, 3) := by decide +kernel
theorem dX9_garden_31 : decode cX9_garden 31 = .ok (.aload_n 0, 1) := by decide +kernel
theorem dX9_garden_32 : decode cX9_garden 32 = .ok (.iconst 3, 1) := by decide +kernel
theorem dX9_garden_33 : decode cX9_garden 33 = .ok (.invokevirtual 73, 3) := by decide +kernel
theorem dX9_garden_36 : decode cX9_garden 36 = .ok (.ireturn, 1) := by decide +kernel
theorem dX9_garden_37 : decode cX9_garden 37 = .ok (.aload_n 0, 1) := by decide +kernel
theorem dX9_garden_38 : decode cX9_garden 38 = .ok (.getfield 16, 3) := by decide +kernel
theorem dX9_garden_41 : decode cX9_garden 41 = .ok (.new 97, 3) := by decide +kernel
theorem dX9_garden_44 : decode cX9_garden 44 = .ok (.dup, 1) := by decide +kernel
theorem dX9_garden_45 : decode cX9_garden 45 = .ok (.iload_n 1, 1) := by decide +kernel
theorem dX9_garden_46 : decode cX9_garden 46 = .ok (.invokespecial 99, 3) := by decide +kernel
theorem dX9_garden_49 : decode cX9_garden 49 = .ok (.invokevirtual 86, 3) := by decide +kernel
theorem dX9_garden_52 : decode cX9_garden 52 = .ok (.pop, 1) := by decide +kernel
theorem dX9_garden_53 : decode cX9_garden 53 = .ok (.aload_n 0, 1) := by decide +kernel
theorem dX9_garden_54 : decode cX9_garden 54 = .ok (.aload_n 0, 1) := by decide +kernel
theorem dX9_garden_55 : decode cX9_garden 55 = .ok (.getfield 16, 3) := by decide +kernel
theorem dX9_garden_58 : decode cX9_garden 58 = .ok (.invokevirtual 77, 3) := by decide +kernel
theorem dX9_garden_61 : decode cX9_garden 61 = .ok (.iconst 1, 1) := by decide +kernel
theorem dX9_garden_62 : decode cX9_garden 62 = .ok (.isub, 1) := by decide +kernel
theorem dX9_garden_63 : decode cX9_garden 63 = .ok (.invokevirtual 90, 3) := by decide +kernel
theorem dX9_garden_66 : decode cX9_garden 66 = .ok (.ireturn, 1) := by decide +kernel
theorem dX9_set_0 : decode cX9_set 0 = .ok (.iload_n 1, 1) := by decide +kernel
theorem dX9_set_1 : decode cX9_set 1 = .ok (.bipush 10, 2) := by decide +kernel
theorem dX9_set_3 : decode cX9_set 3 = .ok (.bipush 99, 2) := by decide +kernel
theorem dX9_set_5 : decode cX9_set 5 = .ok (.invokestatic 69, 3) := by decide +kernel
theorem dX9_set_8 : decode cX9_set 8 = .ok (.ifCond .eq 13, 3) := by decide +kernel
theorem dX9_set_11 : decode cX9_set 11 = .ok (.iload_n 2, 1) := by decide +kernel
theorem dX9_set_12 : decode cX9_set 12 = .ok (.iconst 0, 1) := by decide +kernel
theorem dX9_set_13 : decode cX9_set 13 = .ok (.bipush 9, 2) := by decide +kernel
theorem dX9_set_15 : decode cX9_set 15 = .ok (.invokestatic 69, 3) := by decide +kernel
theorem dX9_set_18 : decode cX9_set 18 = .ok (.ifCond .ne 9, 3) := by decide +kernel
theorem dX9_set_21 : decode cX9_set 21 = .ok (.aload_n 0, 1) := by decide +kernel
theorem dX9_set_22 : decode cX9_set 22 = .ok (.iconst 2, 1) := by decide +kernel
theorem dX9_set_23 : decode cX9_set 23 = .ok (.invokevirtual 100, 3) := by decide +kernel
theorem dX9_set_26 : decode cX9_set 26 = .ok (.ireturn, 1) := by decide +kernel
theorem dX9_set_27 : decode cX9_set 27 = .ok (.aload_n 0, 1) := by decide +kernel
theorem dX9_set_28 : decode cX9_set 28 = .ok (.iload_n 1, 1) := by decide +kernel
theorem dX9_set_29 : decode cX9_set 29 = .ok (.putfield 56, 3) := by decide +kernel
theorem dX9_set_32 : decode cX9_set 32 = .ok (.aload_n 0, 1) := by decide +kernel
theorem dX9_set_33 : decode cX9_set 33 = .ok (.iload_n 2, 1) := by decide +kernel
theorem dX9_set_34 : decode cX9_set 34 = .ok (.putfield 60, 3) := by decide +kernel
theorem dX9_set_37 : decode cX9_set 37 = .ok (.aload_n 0, 1) := by decide +kernel
theorem dX9_set_38 : decode cX9_set 38 = .ok (.iconst 0, 1) := by decide +kernel
theorem dX9_set_39 : decode cX9_set 39 = .ok (.invokevirtual 100, 3) := by decide +kernel
theorem dX9_set_42 : decode cX9_set 42 = .ok (.ireturn, 1) := by decide +kernel
theorem dX9_price_0 : decode cX9_price 0 = .ok (.iload_n 1, 1) := by decide +kernel
theorem dX9_price_1 : decode cX9_price 1 = .ok (.invokestatic 103, 3) := by decide +kernel
theorem dX9_price_4 : decode cX9_price 4 = .ok (.ifCond .ne 9, 3) := by decide +kernel
theorem dX9_price_7 : decode cX9_price 7 = .ok (.aload_n 0, 1) := by decide +kernel
theorem dX9_price_8 : decode cX9_price 8 = .ok (.iconst 1, 1) := by decide +kernel
theorem dX9_price_9 : decode cX9_price 9 = .ok (.invokevirtual 100, 3) := by decide +kernel
theorem dX9_price_12 : decode cX9_price 12 = .ok (.ireturn, 1) := by decide +kernel
theorem dX9_price_13 : decode cX9_price 13 = .ok (.iload_n 2, 1) := by decide +kernel
theorem dX9_price_14 : decode cX9_price 14 = .ok (.iconst 0, 1) := by decide +kernel
theorem dX9_price_15 : decode cX9_price 15 = .ok (.sipush 9999, 3) := by decide +kernel
theorem dX9_price_18 : decode cX9_price 18 = .ok (.invokestatic 69, 3) := by decide +kernel
theorem dX9_price_21 : decode cX9_price 21 = .ok (.ifCond .ne 9, 3) := by decide +kernel
theorem dX9_price_24 : decode cX9_price 24 = .ok (.aload_n 0, 1) := by decide +kernel
theorem dX9_price_25 : decode cX9_price 25 = .ok (.iconst 2, 1) := by decide +kernel
theorem dX9_price_26 : decode cX9_price 26 = .ok (.invokevirtual 100, 3) := by decide +kernel
theorem dX9_price_29 : decode cX9_price 29 = .ok (.ireturn, 1) := by decide +kernel
theorem dX9_price_30 : decode cX9_price 30 = .ok (.aload_n 0, 1) := by decide +kernel
theorem dX9_price_31 : decode cX9_price 31 = .ok (.getfield 52, 3) := by decide +kernel
theorem dX9_price_34 : decode cX9_price 34 = .ok (.iload_n 1, 1) := by decide +kernel
theorem dX9_price_35 : decode cX9_price 35 = .ok (.iload_n 2, 1) := by decide +kernel
theorem dX9_price_36 : decode cX9_price 36 = .ok (.iastore, 1) := by decide +kernel
theorem dX9_price_37 : decode cX9_price 37 = .ok (.aload_n 0, 1) := by decide +kernel
theorem dX9_price_38 : decode cX9_price 38 = .ok (.iconst 0, 1) := by decide +kernel
theorem dX9_price_39 : decode cX9_price 39 = .ok (.invokevirtual 100, 3) := by decide +kernel
theorem dX9_price_42 : decode cX9_price 42 = .ok (.ireturn, 1) := by decide +kernel
theorem dX9_rain_0 : decode cX9_rain 0 = .ok (.iload_n 1, 1) := by decide +kernel
theorem dX9_rain_1 : decode cX9_rain 1 = .ok (.aload_n 0, 1) := by decide +kernel
theorem dX9_rain_2 : decode cX9_rain 2 = .ok (.getfield 63, 3) := by decide +kernel
theorem dX9_rain_5 : decode cX9_rain 5 = .ok (.if_icmp .le 10, 3) := by decide +kernel
theorem dX9_rain_8 : decode cX9_rain 8 = .ok (.iload_n 1, 1) := by decide +kernel
theorem dX9_rain_9 : decode cX9_rain 9 = .ok (.sipush 3000, 3) := by decide +kernel
theorem dX9_rain_12 : decode cX9_rain 12 = .ok (.if_icmp .le 9, 3) := by decide +kernel
theorem dX9_rain_15 : decode cX9_rain 15 = .ok (.aload_n 0, 1) := by decide +kernel
theorem dX9_rain_16 : decode cX9_rain 16 = .ok (.iconst 2, 1) := by decide +kernel
theorem dX9_rain_17 : decode cX9_rain 17 = .ok (.invokevirtual 100, 3) := by decide +kernel
theorem dX9_rain_20 : decode cX9_rain 20 = .ok (.ireturn, 1) := by decide +kernel
theorem dX9_rain_21 : decode cX9_rain 21 = .ok (.aload_n 0, 1) := by decide +kernel
theorem dX9_rain_22 : decode cX9_rain 22 = .ok (.getfield 34, 3) := by decide +kernel
theorem dX9_rain_25 : decode cX9_rain 25 = .ok (.iload_n 1, 1) := by decide +kernel
theorem dX9_rain_26 : decode cX9_rain 26 = .ok (.iload_n 2, 1) := by decide +kernel
theorem dX9_rain_27 : decode cX9_rain 27 = .ok (.invokevirtual 106, 3) := by decide +kernel
theorem dX9_rain_30 : decode cX9_rain 30 = .ok (.aload_n 0, 1) := by decide +kernel
theorem dX9_rain_31 : decode cX9_rain 31 = .ok (.iconst 0, 1) := by decide +kernel
theorem dX9_rain_32 : decode cX9_rain 32 = .ok (.invokevirtual 100, 3) := by decide +kernel
theorem dX9_rain_35 : decode cX9_rain 35 = .ok (.ireturn, 1) := by decide +kernel
theorem dX9_cut_0 : decode cX9_cut 0 = .ok (.aload_n 0, 1) := by decide +kernel
theorem dX9_cut_1 : decode cX9_cut 1 = .ok (.iload_n 1, 1) := by decide +kernel
theorem dX9_cut_2 : decode cX9_cut 2 = .ok (.invokevirtual 93, 3) := by decide +kernel
theorem dX9_cut_5 : decode cX9_cut 5 = .ok (.ifCond .eq 11, 3) := by decide +kernel
theorem dX9_cut_8 : decode cX9_cut 8 = .ok (.aload_n 0, 1) := by decide +kernel
theorem dX9_cut_9 : decode cX9_cut 9 = .ok (.iload_n 2, 1) := by decide +kernel
theorem dX9_cut_10 : decode cX9_cut 10 = .ok (.invokevirtual 110, 3) := by decide +kernel
theorem dX9_cut_13 : decode cX9_cut 13 = .ok (.ifCond .ne 9, 3) := by decide +kernel
theorem dX9_cut_16 : decode cX9_cut 16 = .ok (.aload_n 0, 1) := by decide +kernel
theorem dX9_cut_17 : decode cX9_cut 17 = .ok (.iconst 1, 1) := by decide +kernel
theorem dX9_cut_18 : decode cX9_cut 18 = .ok (.invokevirtual 73, 3) := by decide +kernel
theorem dX9_cut_21 : decode cX9_cut 21 = .ok (.ireturn, 1) := by decide +kernel
theorem dX9_cut_22 : decode cX9_cut 22 = .ok (.iload_n 3, 1) := by decide +kernel
theorem dX9_cut_23 : decode cX9_cut 23 = .ok (.iconst 1, 1) := by decide +kernel
theorem dX9_cut_24 : decode cX9_cut 24 = .ok (.bipush 60, 2) := by decide +kernel
theorem dX9_cut_26 : decode cX9_cut 26 = .ok (.invokestatic 69, 3) := by decide +kernel
theorem dX9_cut_29 : decode cX9_cut 29 = .ok (.ifCond .eq 25, 3) := by decide +kernel
theorem dX9_cut_32 : decode cX9_cut 32 = .ok (.iload 4, 2) := by decide +kernel
theorem dX9_cut_34 : decode cX9_cut 34 = .ok (.iconst 1, 1) := by decide +kernel
theorem dX9_cut_35 : decode cX9_cut 35 = .ok (.bipush 9, 2) := by decide +kernel
theorem dX9_cut_37 : decode cX9_cut 37 = .ok (.invokestatic 69, 3) := by decide +kernel
theorem dX9_cut_40 : decode cX9_cut 40 = .ok (.ifCond .eq 14, 3) := by decide +kernel
theorem dX9_cut_43 : decode cX9_cut 43 = .ok (.iload 5, 2) := by decide +kernel
theorem dX9_cut_45 : decode cX9_cut 45 = .ok (.iconst 0, 1) := by decide +kernel
theorem dX9_cut_46 : decode cX9_cut 46 = .ok (.bipush 9, 2) := by decide +kernel
theorem dX9_cut_48 : decode cX9_cut 48 = .ok (.invokestatic 69, 3) := by decide +kernel
theorem dX9_cut_51 : decode cX9_cut 51 = .ok (.ifCond .ne 9, 3) := by decide +kernel
theorem dX9_cut_54 : decode cX9_cut 54 = .ok (.aload_n 0, 1) := by decide +kernel
theorem dX9_cut_55 : decode cX9_cut 55 = .ok (.iconst 2, 1) := by decide +kernel
theorem dX9_cut_56 : decode cX9_cut 56 = .ok (.invokevirtual 73, 3) := by decide +kernel
theorem dX9_cut_59 : decode cX9_cut 59 = .ok (.ireturn, 1) := by decide +kernel
theorem dX9_cut_60 : decode cX9_cut 60 = .ok (.aload_n 0, 1) := by decide +kernel
theorem dX9_cut_61 : decode cX9_cut 61 = .ok (.getfield 16, 3) := by decide +kernel
theorem dX9_cut_64 : decode cX9_cut 64 = .ok (.iload_n 2, 1) := by decide +kernel
theorem dX9_cut_65 : decode cX9_cut 65 = .ok (.invokevirtual 113, 3) := by decide +kernel
theorem dX9_cut_68 : decode cX9_cut 68 = .ok (.checkcast 97, 3) := by decide +kernel
theorem dX9_cut_71 : decode cX9_cut 71 = .ok (.iload_n 1, 1) := by decide +kernel
theorem dX9_cut_72 : decode cX9_cut 72 = .ok (.invokevirtual 117, 3) := by decide +kernel
theorem dX9_cut_75 : decode cX9_cut 75 = .ok (.ifCond .ne 9, 3) := by decide +kernel
theorem dX9_cut_78 : decode cX9_cut 78 = .ok (.aload_n 0, 1) := by decide +kernel
theorem dX9_cut_79 : decode cX9_cut 79 = .ok (.iconst 4, 1) := by decide +kernel
theorem dX9_cut_80 : decode cX9_cut 80 = .ok (.invokevirtual 73, 3) := by decide +kernel
theorem dX9_cut_83 : decode cX9_cut 83 = .ok (.ireturn, 1) := by decide +kernel
theorem dX9_cut_84 : decode cX9_cut 84 = .ok (.aload_n 0, 1) := by decide +kernel
theorem dX9_cut_85 : decode cX9_cut 85 = .ok (.getfield 19, 3) := by decide +kernel
theorem dX9_cut_88 : decode cX9_cut 88 = .ok (.invokevirtual 77, 3) := by decide +kernel
theorem dX9_cut_91 : decode cX9_cut 91 = .ok (.sipush 200, 3) := by decide +kernel
theorem dX9_cut_94 : decode cX9_cut 94 = .ok (.if_icmp .lt 9, 3) := by decide +kernel
theorem dX9_cut_97 : decode cX9_cut 97 = .ok (.aload_n 0, 1) := by decide +kernel
theorem dX9_cut_98 : decode cX9_cut 98 = .ok (.iconst 3, 1) := by decide +kernel
theorem dX9_cut_99 : decode cX9_cut 99 = .ok (.invokevirtual 73, 3) := by decide +kernel
theorem dX9_cut_102 : decode cX9_cut 102 = .ok (.ireturn, 1) := by decide +kernel
theorem dX9_cut_103 : decode cX9_cut 103 = .ok (.aload_n 0, 1) := by decide +kernel
theorem dX9_cut_104 : decode cX9_cut 104 = .ok (.getfield 19, 3) := by decide +kernel
theorem dX9_cut_107 : decode cX9_cut 107 = .ok (.new 120, 3) := by decide +kernel
theorem dX9_cut_110 : decode cX9_cut 110 = .ok (.dup, 1) := by decide +kernel
theorem dX9_cut_111 : decode cX9_cut 111 = .ok (.iload_n 1, 1) := by decide +kernel
theorem dX9_cut_112 : decode cX9_cut 112 = .ok (.iload_n 2, 1) := by decide +kernel
theorem dX9_cut_113 : decode cX9_cut 113 = .ok (.iload_n 3, 1) := by decide +kernel
theorem dX9_cut_114 : decode cX9_cut 114 = .ok (.iload 4, 2) := by decide +kernel
theorem dX9_cut_116 : decode cX9_cut 116 = .ok (.iload 5, 2) := by decide +kernel
theorem dX9_cut_118 : decode cX9_cut 118 = .ok (.aload_n 0, 1) := by decide +kernel
theorem dX9_cut_119 : decode cX9_cut 119 = .ok (.getfield 63, 3) := by decide +kernel
theorem dX9_cut_122 : decode cX9_cut 122 = .ok (.invokespecial 122, 3) := by decide +kernel
theorem dX9_cut_125 : decode cX9_cut 125 = .ok (.invokevirtual 86, 3) := by decide +kernel
theorem dX9_cut_128 : decode cX9_cut 128 = .ok (.pop, 1) := by decide +kernel
theorem dX9_cut_129 : decode cX9_cut 129 = .ok (.aload_n 0, 1) := by decide +kernel
theorem dX9_cut_130 : decode cX9_cut 130 = .ok (.aload_n 0, 1) := by decide +kernel
theorem dX9_cut_131 : decode cX9_cut 131 = .ok (.getfield 19, 3) := by decide +kernel
theorem dX9_cut_134 : decode cX9_cut 134 = .ok (.invokevirtual 77, 3) := by decide +kernel
theorem dX9_cut_137 : decode cX9_cut 137 = .ok (.iconst 1, 1) := by decide +kernel
theorem dX9_cut_138 : decode cX9_cut 138 = .ok (.isub, 1) := by decide +kernel
theorem dX9_cut_139 : decode cX9_cut 139 = .ok (.invokevirtual 90, 3) := by decide +kernel
theorem dX9_cut_142 : decode cX9_cut 142 = .ok (.ireturn, 1) := by decide +kernel
theorem dX9_pass_0 : decode cX9_pass 0 = .ok (.iload_n 1, 1) := by decide +kernel
theorem dX9_pass_1 : decode cX9_pass 1 = .ok (.iconst 1, 1) := by decide +kernel
theorem dX9_pass_2 : decode cX9_pass 2 = .ok (.sipush 200, 3) := by decide +kernel
theorem dX9_pass_5 : decode cX9_pass 5 = .ok (.invokestatic 69, 3) := by decide +kernel
theorem dX9_pass_8 : decode cX9_pass 8 = .ok (.ifCond .eq 15, 3) := by decide +kernel
theorem dX9_pass_11 : decode cX9_pass 11 = .ok (.aload_n 0, 1) := by decide +kernel
theorem dX9_pass_12 : decode cX9_pass 12 = .ok (.getfield 63, 3) := by decide +kernel
theorem dX9_pass_15 : decode cX9_pass 15 = .ok (.iload_n 1, 1) := by decide +kernel
theorem dX9_pass_16 : decode cX9_pass 16 = .ok (.iadd, 1) := by decide +kernel
theorem dX9_pass_17 : decode cX9_pass 17 = .ok (.sipush 3000, 3) := by decide +kernel
theorem dX9_pass_20 : decode cX9_pass 20 = .ok (.if_icmp .le 9, 3) := by decide +kernel
theorem dX9_pass_23 : decode cX9_pass 23 = .ok (.aload_n 0, 1) := by decide +kernel
theorem dX9_pass_24 : decode cX9_pass 24 = .ok (.iconst 2, 1) := by decide +kernel
theorem dX9_pass_25 : decode cX9_pass 25 = .ok (.invokevirtual 73, 3) := by decide +kernel
theorem dX9_pass_28 : decode cX9_pass 28 = .ok (.ireturn, 1) := by decide +kernel
theorem dX9_pass_29 : decode cX9_pass 29 = .ok (.aload_n 0, 1) := by decide +kernel
theorem dX9_pass_30 : decode cX9_pass 30 = .ok (.invokevirtual 125, 3) := by decide +kernel
theorem dX9_pass_33 : decode cX9_pass 33 = .ok (.istore_n 2, 1) := by decide +kernel
theorem dX9_pass_34 : decode cX9_pass 34 = .ok (.aload_n 0, 1) := by decide +kernel
theorem dX9_pass_35 : decode cX9_pass 35 = .ok (.dup, 1) := by decide +kernel
theorem dX9_pass_36 : decode cX9_pass 36 = .ok (.getfield 63, 3) := by decide +kernel
theorem dX9_pass_39 : decode cX9_pass 39 = .ok (.iload_n 1, 1) := by decide +kernel
theorem dX9_pass_40 : decode cX9_pass 40 = .ok (.iadd, 1) := by decide +kernel
theorem dX9_pass_41 : decode cX9_pass 41 = .ok (.putfield 63, 3) := by decide +kernel
theorem dX9_pass_44 : decode cX9_pass 44 = .ok (.aload_n 0, 1) := by decide +kernel
theorem dX9_pass_45 : decode cX9_pass 45 = .ok (.invokevirtual 125, 3) := by decide +kernel
theorem dX9_pass_48 : decode cX9_pass 48 = .ok (.istore_n 3, 1) := by decide +kernel
theorem dX9_pass_49 : decode cX9_pass 49 = .ok (.iload_n 2, 1) := by decide +kernel
theorem dX9_pass_50 : decode cX9_pass 50 = .ok (.istore 4, 2) := by decide +kernel
theorem dX9_pass_52 : decode cX9_pass 52 = .ok (.iload 4, 2) := by decide +kernel
theorem dX9_pass_54 : decode cX9_pass 54 = .ok (.iload_n 3, 1) := by decide +kernel
theorem dX9_pass_55 : decode cX9_pass 55 = .ok (.if_icmp .ge 13, 3) := by decide +kernel
theorem dX9_pass_58 : decode cX9_pass 58 = .ok (.aload_n 0, 1) := by decide +kernel
theorem dX9_pass_59 : decode cX9_pass 59 = .ok (.invokevirtual 128, 3) := by decide +kernel
theorem dX9_pass_62 : decode cX9_pass 62 = .ok (.iinc 4 1, 3) := by decide +kernel
theorem dX9_pass_65 : decode cX9_pass 65 = .ok (.goto (-13), 3) := by decide +kernel
theorem dX9_pass_68 : decode cX9_pass 68 = .ok (.aload_n 0, 1) := by decide +kernel
theorem dX9_pass_69 : decode cX9_pass 69 = .ok (.aload_n 0, 1) := by decide +kernel
theorem dX9_pass_70 : decode cX9_pass 70 = .ok (.getfield 63, 3) := by decide +kernel
theorem dX9_pass_73 : decode cX9_pass 73 = .ok (.invokevirtual 90, 3) := by decide +kernel
theorem dX9_pass_76 : decode cX9_pass 76 = .ok (.ireturn, 1) := by decide +kernel
theorem dX9_strip_0 : decode cX9_strip 0 = .ok (.aload_n 0, 1) := by decide +kernel
theorem dX9_strip_1 : decode cX9_strip 1 = .ok (.iload_n 1, 1) := by decide +kernel
theorem dX9_strip_2 : decode cX9_strip 2 = .ok (.invokevirtual 131, 3) := by decide +kernel
theorem dX9_strip_5 : decode cX9_strip 5 = .ok (.ifCond .ne 5, 3) := by decide +kernel
theorem dX9_strip_8 : decode cX9_strip 8 = .ok (.iconst (-1), 1) := by decide +kernel
theorem dX9_strip_9 : decode cX9_strip 9 = .ok (.ireturn, 1) := by decide +kernel
theorem dX9_strip_10 : decode cX9_strip 10 = .ok (.aload_n 0, 1) := by decide +kernel
theorem dX9_strip_11 : decode cX9_strip 11 = .ok (.getfield 19, 3) := by decide +kernel
theorem dX9_strip_14 : decode cX9_strip 14 = .ok (.iload_n 1, 1) := by decide +kernel
theorem dX9_strip_15 : decode cX9_strip 15 = .ok (.invokevirtual 113, 3) := by decide +kernel
theorem dX9_strip_18 : decode cX9_strip 18 = .ok (.checkcast 120, 3) := by decide +kernel
theorem dX9_strip_21 : decode cX9_strip 21 = .ok (.astore_n 3, 1) := by decide +kernel
theorem dX9_strip_22 : decode cX9_strip 22 = .ok (.iload_n 2, 1) := by decide +kernel
theorem dX9_strip_23 : decode cX9_strip 23 = .ok (.tableswitch 94 0 7 #[45, 50, 55, 60, 65, 70, 75, 89], 45) := by decide +kernel
theorem dX9_strip_68 : decode cX9_strip 68 = .ok (.aload_n 3, 1) := by decide +kernel
theorem dX9_strip_69 : decode cX9_strip 69 = .ok (.getfield 134, 3) := by decide +kernel
theorem dX9_strip_72 : decode cX9_strip 72 = .ok (.ireturn, 1) := by decide +kernel
theorem dX9_strip_73 : decode cX9_strip 73 = .ok (.aload_n 3, 1) := by decide +kernel
theorem dX9_strip_74 : decode cX9_strip 74 = .ok (.getfield 137, 3) := by decide +kernel
theorem dX9_strip_77 : decode cX9_strip 77 = .ok (.ireturn, 1) := by decide +kernel
theorem dX9_strip_78 : decode cX9_strip 78 = .ok (.aload_n 3, 1) := by decide +kernel
theorem dX9_strip_79 : decode cX9_strip 79 = .ok (.getfield 140, 3) := by decide +kernel
theorem dX9_strip_82 : decode cX9_strip 82 = .ok (.ireturn, 1) := by decide +kernel
theorem dX9_strip_83 : decode cX9_strip 83 = .ok (.aload_n 3, 1) := by decide +kernel
theorem dX9_strip_84 : decode cX9_strip 84 = .ok (.getfield 143, 3) := by decide +kernel
theorem dX9_strip_87 : decode cX9_strip 87 = .ok (.ireturn, 1) := by decide +kernel
theorem dX9_strip_88 : decode cX9_strip 88 = .ok (.aload_n 3, 1) := by decide +kernel
theorem dX9_strip_89 : decode cX9_strip 89 = .ok (.getfield 146, 3) := by decide +kernel
theorem dX9_strip_92 : decode cX9_strip 92 = .ok (.ireturn, 1) := by decide +kernel
theorem dX9_strip_93 : decode cX9_strip 93 = .ok (.aload_n 3, 1) := by decide +kernel
theorem dX9_strip_94 : decode cX9_strip 94 = .ok (.getfield 149, 3) := by decide +kernel
theorem dX9_strip_97 : decode cX9_strip 97 = .ok (.ireturn, 1) := by decide +kernel
theorem dX9_strip_98 : decode cX9_strip 98 = .ok (.aload_n 0, 1) := by decide +kernel
theorem dX9_strip_99 : decode cX9_strip 99 = .ok (.aload_n 3, 1) := by decide +kernel
theorem dX9_strip_100 : decode cX9_strip 100 = .ok (.invokevirtual 152, 3) := by decide +kernel
theorem dX9_strip_103 : decode cX9_strip 103 = .ok (.ifCond .eq 7, 3) := by decide +kernel
theorem dX9_strip_106 : decode cX9_strip 106 = .ok (.iconst 1, 1) := by decide +kernel
theorem dX9_strip_107 : decode cX9_strip 107 = .ok (.goto 4, 3) := by decide +kernel
theorem dX9_strip_110 : decode cX9_strip 110 = .ok (.iconst 0, 1) := by decide +kernel
theorem dX9_strip_111 : decode cX9_strip 111 = .ok (.ireturn, 1) := by decide +kernel
theorem dX9_strip_112 : decode cX9_strip 112 = .ok (.aload_n 3, 1) := by decide +kernel
theorem dX9_strip_113 : decode cX9_strip 113 = .ok (.getfield 156, 3) := by decide +kernel
theorem dX9_strip_116 : decode cX9_strip 116 = .ok (.ireturn, 1) := by decide +kernel
theorem dX9_strip_117 : decode cX9_strip 117 = .ok (.iconst (-1), 1) := by decide +kernel
theorem dX9_strip_118 : decode cX9_strip 118 = .ok (.ireturn, 1) := by decide +kernel
theorem dX9_ready_0 : decode cX9_ready 0 = .ok (.aload_n 0, 1) := by decide +kernel
theorem dX9_ready_1 : decode cX9_ready 1 = .ok (.iload_n 1, 1) := by decide +kernel
theorem dX9_ready_2 : decode cX9_ready 2 = .ok (.invokevirtual 93, 3) := by decide +kernel
theorem dX9_ready_5 : decode cX9_ready 5 = .ok (.ifCond .ne 5, 3) := by decide +kernel
theorem dX9_ready_8 : decode cX9_ready 8 = .ok (.iconst (-1), 1) := by decide +kernel
theorem dX9_ready_9 : decode cX9_ready 9 = .ok (.ireturn, 1) := by decide +kernel
theorem dX9_ready_10 : decode cX9_ready 10 = .ok (.iconst 0, 1) := by decide +kernel
theorem dX9_ready_11 : decode cX9_ready 11 = .ok (.istore_n 2, 1) := by decide +kernel
theorem dX9_ready_12 : decode cX9_ready 12 = .ok (.iconst 0, 1) := by decide +kernel
theorem dX9_ready_13 : decode cX9_ready 13 = .ok (.istore_n 3, 1) := by decide +kernel
theorem dX9_ready_14 : decode cX9_ready 14 = .ok (.iload_n 3, 1) := by decide +kernel
theorem dX9_ready_15 : decode cX9_ready 15 = .ok (.aload_n 0, 1) := by decide +kernel
theorem dX9_ready_16 : decode cX9_ready 16 = .ok (.getfield 19, 3) := by decide +kernel
theorem dX9_ready_19 : decode cX9_ready 19 = .ok (.invokevirtual 77, 3) := by decide +kernel
theorem dX9_ready_22 : decode cX9_ready 22 = .ok (.if_icmp .ge 31, 3) := by decide +kernel
theorem dX9_ready_25 : decode cX9_ready 25 = .ok (.aload_n 0, 1) := by decide +kernel
theorem dX9_ready_26 : decode cX9_ready 26 = .ok (.aload_n 0, 1) := by decide +kernel
theorem dX9_ready_27 : decode cX9_ready 27 = .ok (.getfield 19, 3) := by decide +kernel
theorem dX9_ready_30 : decode cX9_ready 30 = .ok (.iload_n 3, 1) := by decide +kernel
theorem dX9_ready_31 : decode cX9_ready 31 = .ok (.invokevirtual 113, 3) := by decide +kernel
theorem dX9_ready_34 : decode cX9_ready 34 = .ok (.checkcast 120, 3) := by decide +kernel
theorem dX9_ready_37 : decode cX9_ready 37 = .ok (.iload_n 1, 1) := by decide +kernel
theorem dX9_ready_38 : decode cX9_ready 38 = .ok (.invokevirtual 159, 3) := by decide +kernel
theorem dX9_ready_41 : decode cX9_ready 41 = .ok (.ifCond .eq 6, 3) := by decide +kernel
theorem dX9_ready_44 : decode cX9_ready 44 = .ok (.iinc 2 1, 3) := by decide +kernel
theorem dX9_ready_47 : decode cX9_ready 47 = .ok (.iinc 3 1, 3) := by decide +kernel
theorem dX9_ready_50 : decode cX9_ready 50 = .ok (.goto (-36), 3) := by decide +kernel
theorem dX9_ready_53 : decode cX9_ready 53 = .ok (.iload_n 2, 1) := by decide +kernel
theorem dX9_ready_54 : decode cX9_ready 54 = .ok (.ireturn, 1) := by decide +kernel
theorem dX9_dryOn_0 : decode cX9_dryOn 0 = .ok (.aload_n 0, 1) := by decide +kernel
theorem dX9_dryOn_1 : decode cX9_dryOn 1 = .ok (.iload_n 1, 1) := by decide +kernel
theorem dX9_dryOn_2 : decode cX9_dryOn 2 = .ok (.invokevirtual 131, 3) := by decide +kernel
theorem dX9_dryOn_5 : decode cX9_dryOn 5 = .ok (.ifCond .eq 21, 3) := by decide +kernel
theorem dX9_dryOn_8 : decode cX9_dryOn 8 = .ok (.aload_n 0, 1) := by decide +kernel
theorem dX9_dryOn_9 : decode cX9_dryOn 9 = .ok (.aload_n 0, 1) := by decide +kernel
theorem dX9_dryOn_10 : decode cX9_dryOn 10 = .ok (.getfield 19, 3) := by decide +kernel
theorem dX9_dryOn_13 : decode cX9_dryOn 13 = .ok (.iload_n 1, 1) := by decide +kernel
theorem dX9_dryOn_14 : decode cX9_dryOn 14 = .ok (.invokevirtual 113, 3) := by decide +kernel
theorem dX9_dryOn_17 : decode cX9_dryOn 17 = .ok (.checkcast 120, 3) := by decide +kernel
theorem dX9_dryOn_20 : decode cX9_dryOn 20 = .ok (.invokevirtual 163, 3) := by decide +kernel
theorem dX9_dryOn_23 : decode cX9_dryOn 23 = .ok (.goto 4, 3) := by decide +kernel
theorem dX9_dryOn_26 : decode cX9_dryOn 26 = .ok (.iconst (-1), 1) := by decide +kernel
theorem dX9_dryOn_27 : decode cX9_dryOn 27 = .ok (.ireturn, 1) := by decide +kernel
theorem dX9_join_0 : decode cX9_join 0 = .ok (.aload_n 0, 1) := by decide +kernel
theorem dX9_join_1 : decode cX9_join 1 = .ok (.iload_n 1, 1) := by decide +kernel
theorem dX9_join_2 : decode cX9_join 2 = .ok (.invokevirtual 93, 3) := by decide +kernel
theorem dX9_join_5 : decode cX9_join 5 = .ok (.ifCond .ne 9, 3) := by decide +kernel
theorem dX9_join_8 : decode cX9_join 8 = .ok (.aload_n 0, 1) := by decide +kernel
theorem dX9_join_9 : decode cX9_join 9 = .ok (.iconst 1, 1) := by decide +kernel
theorem dX9_join_10 : decode cX9_join 10 = .ok (.invokevirtual 73, 3) := by decide +kernel
theorem dX9_join_13 : decode cX9_join 13 = .ok (.ireturn, 1) := by decide +kernel
theorem dX9_join_14 : decode cX9_join 14 = .ok (.aload_n 0, 1) := by decide +kernel
theorem dX9_join_15 : decode cX9_join 15 = .ok (.iload_n 1, 1) := by decide +kernel
theorem dX9_join_16 : decode cX9_join 16 = .ok (.invokevirtual 167, 3) := by decide +kernel
theorem dX9_join_19 : decode cX9_join 19 = .ok (.istore_n 2, 1) := by decide +kernel
theorem dX9_join_20 : decode cX9_join 20 = .ok (.iload_n 2, 1) := by decide +kernel
theorem dX9_join_21 : decode cX9_join 21 = .ok (.ifCond .ne 9, 3) := by decide +kernel
theorem dX9_join_24 : decode cX9_join 24 = .ok (.aload_n 0, 1) := by decide +kernel
theorem dX9_join_25 : decode cX9_join 25 = .ok (.iconst 5, 1) := by decide +kernel
theorem dX9_join_26 : decode cX9_join 26 = .ok (.invokevirtual 73, 3) := by decide +kernel
theorem dX9_join_29 : decode cX9_join 29 = .ok (.ireturn, 1) := by decide +kernel
theorem dX9_join_30 : decode cX9_join 30 = .ok (.aload_n 0, 1) := by decide +kernel
theorem dX9_join_31 : decode cX9_join 31 = .ok (.getfield 22, 3) := by decide +kernel
theorem dX9_join_34 : decode cX9_join 34 = .ok (.invokevirtual 77, 3) := by decide +kernel
theorem dX9_join_37 : decode cX9_join 37 = .ok (.bipush 120, 2) := by decide +kernel
theorem dX9_join_39 : decode cX9_join 39 = .ok (.if_icmp .lt 9, 3) := by decide +kernel
theorem dX9_join_42 : decode cX9_join 42 = .ok (.aload_n 0, 1) := by decide +kernel
theorem dX9_join_43 : decode cX9_join 43 = .ok (.iconst 3, 1) := by decide +kernel
theorem dX9_join_44 : decode cX9_join 44 = .ok (.invokevirtual 73, 3) := by decide +kernel
theorem dX9_join_47 : decode cX9_join 47 = .ok (.ireturn, 1) := by decide +kernel
theorem dX9_join_48 : decode cX9_join 48 = .ok (.new 170, 3) := by decide +kernel
theorem dX9_join_51 : decode cX9_join 51 = .ok (.dup, 1) := by decide +kernel
theorem dX9_join_52 : decode cX9_join 52 = .ok (.iload_n 1, 1) := by decide +kernel
theorem dX9_join_53 : decode cX9_join 53 = .ok (.aload_n 0, 1) := by decide +kernel
theorem dX9_join_54 : decode cX9_join 54 = .ok (.getfield 63, 3) := by decide +kernel
theorem dX9_join_57 : decode cX9_join 57 = .ok (.iload_n 2, 1) := by decide +kernel
theorem dX9_join_58 : decode cX9_join 58 = .ok (.invokespecial 172, 3) := by decide +kernel
theorem dX9_join_61 : decode cX9_join 61 = .ok (.astore_n 3, 1) := by decide +kernel
theorem dX9_join_62 : decode cX9_join 62 = .ok (.iconst 0, 1) := by decide +kernel
theorem dX9_join_63 : decode cX9_join 63 = .ok (.istore 4, 2) := by decide +kernel
theorem dX9_join_65 : decode cX9_join 65 = .ok (.iload 4, 2) := by decide +kernel
theorem dX9_join_67 : decode cX9_join 67 = .ok (.iload_n 2, 1) := by decide +kernel
theorem dX9_join_68 : decode cX9_join 68 = .ok (.if_icmp .ge 23, 3) := by decide +kernel
theorem dX9_join_71 : decode cX9_join 71 = .ok (.aload_n 0, 1) := by decide +kernel
theorem dX9_join_72 : decode cX9_join 72 = .ok (.aload_n 3, 1) := by decide +kernel
theorem dX9_join_73 : decode cX9_join 73 = .ok (.aload_n 0, 1) := by decide +kernel
theorem dX9_join_74 : decode cX9_join 74 = .ok (.getfield 41, 3) := by decide +kernel
theorem dX9_join_77 : decode cX9_join 77 = .ok (.iload 4, 2) := by decide +kernel
theorem dX9_join_79 : decode cX9_join 79 = .ok (.invokevirtual 175, 3) := by decide +kernel
theorem dX9_join_82 : decode cX9_join 82 = .ok (.invokevirtual 178, 3) := by decide +kernel
theorem dX9_join_85 : decode cX9_join 85 = .ok (.iinc 4 1, 3) := by decide +kernel
theorem dX9_join_88 : decode cX9_join 88 = .ok (.goto (-23), 3) := by decide +kernel
theorem dX9_join_91 : decode cX9_join 91 = .ok (.aload_n 0, 1) := by decide +kernel
theorem dX9_join_92 : decode cX9_join 92 = .ok (.getfield 22, 3) := by decide +kernel
theorem dX9_join_95 : decode cX9_join 95 = .ok (.aload_n 3, 1) := by decide +kernel
theorem dX9_join_96 : decode cX9_join 96 = .ok (.invokevirtual 86, 3) := by decide +kernel
theorem dX9_join_99 : decode cX9_join 99 = .ok (.pop, 1) := by decide +kernel
theorem dX9_join_100 : decode cX9_join 100 = .ok (.aload_n 0, 1) := by decide +kernel
theorem dX9_join_101 : decode cX9_join 101 = .ok (.aload_n 0, 1) := by decide +kernel
theorem dX9_join_102 : decode cX9_join 102 = .ok (.getfield 22, 3) := by decide +kernel
theorem dX9_join_105 : decode cX9_join 105 = .ok (.invokevirtual 77, 3) := by decide +kernel
theorem dX9_join_108 : decode cX9_join 108 = .ok (.iconst 1, 1) := by decide +kernel
theorem dX9_join_109 : decode cX9_join 109 = .ok (.isub, 1) := by decide +kernel
theorem dX9_join_110 : decode cX9_join 110 = .ok (.invokevirtual 90, 3) := by decide +kernel
theorem dX9_join_113 : decode cX9_join 113 = .ok (.ireturn, 1) := by decide +kernel
theorem dX9_could_0 : decode cX9_could 0 = .ok (.aload_n 0, 1) := by decide +kernel
theorem dX9_could_1 : decode cX9_could 1 = .ok (.iload_n 1, 1) := by decide +kernel
theorem dX9_could_2 : decode cX9_could 2 = .ok (.invokevirtual 93, 3) := by decide +kernel
theorem dX9_could_5 : decode cX9_could 5 = .ok (.ifCond .ne 5, 3) := by decide +kernel
theorem dX9_could_8 : decode cX9_could 8 = .ok (.iconst (-1), 1) := by decide +kernel
theorem dX9_could_9 : decode cX9_could 9 = .ok (.ireturn, 1) := by decide +kernel
theorem dX9_could_10 : decode cX9_could 10 = .ok (.aload_n 0, 1) := by decide +kernel
theorem dX9_could_11 : decode cX9_could 11 = .ok (.iload_n 1, 1) := by decide +kernel
theorem dX9_could_12 : decode cX9_could 12 = .ok (.invokevirtual 167, 3) := by decide +kernel
theorem dX9_could_15 : decode cX9_could 15 = .ok (.istore_n 2, 1) := by decide +kernel
theorem dX9_could_16 : decode cX9_could 16 = .ok (.iload_n 2, 1) := by decide +kernel
theorem dX9_could_17 : decode cX9_could 17 = .ok (.ifCond .ne 8, 3) := by decide +kernel
theorem dX9_could_20 : decode cX9_could 20 = .ok (.bipush (-2), 2) := by decide +kernel
theorem dX9_could_22 : decode cX9_could 22 = .ok (.goto 4, 3) := by decide +kernel
theorem dX9_could_25 : decode cX9_could 25 = .ok (.iload_n 2, 1) := by decide +kernel
theorem dX9_could_26 : decode cX9_could 26 = .ok (.ireturn, 1) := by decide +kernel
theorem dX9_most_0 : decode cX9_most 0 = .ok (.aload_n 0, 1) := by decide +kernel
theorem dX9_most_1 : decode cX9_most 1 = .ok (.iload_n 1, 1) := by decide +kernel
theorem dX9_most_2 : decode cX9_most 2 = .ok (.invokevirtual 93, 3) := by decide +kernel
theorem dX9_most_5 : decode cX9_most 5 = .ok (.ifCond .ne 9, 3) := by decide +kernel
theorem dX9_most_8 : decode cX9_most 8 = .ok (.aload_n 0, 1) := by decide +kernel
theorem dX9_most_9 : decode cX9_most 9 = .ok (.iconst 1, 1) := by decide +kernel
theorem dX9_most_10 : decode cX9_most 10 = .ok (.invokevirtual 73, 3) := by decide +kernel
theorem dX9_most_13 : decode cX9_most 13 = .ok (.ireturn, 1) := by decide +kernel
theorem dX9_most_14 : decode cX9_most 14 = .ok (.aload_n 0, 1) := by decide +kernel
theorem dX9_most_15 : decode cX9_most 15 = .ok (.getfield 48, 3) := by decide +kernel
theorem dX9_most_18 : decode cX9_most 18 = .ok (.invokevirtual 182, 3) := by decide +kernel
theorem dX9_most_21 : decode cX9_most 21 = .ok (.iconst 0, 1) := by decide +kernel
theorem dX9_most_22 : decode cX9_most 22 = .ok (.istore_n 2, 1) := by decide +kernel
theorem dX9_most_23 : decode cX9_most 23 = .ok (.iload_n 2, 1) := by decide +kernel
theorem dX9_most_24 : decode cX9_most 24 = .ok (.aload_n 0, 1) := by decide +kernel
theorem dX9_most_25 : decode cX9_most 25 = .ok (.getfield 19, 3) := by decide +kernel
theorem dX9_most_28 : decode cX9_most 28 = .ok (.invokevirtual 77, 3) := by decide +kernel
theorem dX9_most_31 : decode cX9_most 31 = .ok (.if_icmp .ge 51, 3) := by decide +kernel
theorem dX9_most_34 : decode cX9_most 34 = .ok (.aload_n 0, 1) := by decide +kernel
theorem dX9_most_35 : decode cX9_most 35 = .ok (.getfield 19, 3) := by decide +kernel
theorem dX9_most_38 : decode cX9_most 38 = .ok (.iload_n 2, 1) := by decide +kernel
theorem dX9_most_39 : decode cX9_most 39 = .ok (.invokevirtual 113, 3) := by decide +kernel
theorem dX9_most_42 : decode cX9_most 42 = .ok (.checkcast 120, 3) := by decide +kernel
theorem dX9_most_45 : decode cX9_most 45 = .ok (.astore_n 3, 1) := by decide +kernel
theorem dX9_most_46 : decode cX9_most 46 = .ok (.aload_n 0, 1) := by decide +kernel
theorem dX9_most_47 : decode cX9_most 47 = .ok (.aload_n 3, 1) := by decide +kernel
theorem dX9_most_48 : decode cX9_most 48 = .ok (.iload_n 1, 1) := by decide +kernel
theorem dX9_most_49 : decode cX9_most 49 = .ok (.invokevirtual 159, 3) := by decide +kernel
theorem dX9_most_52 : decode cX9_most 52 = .ok (.ifCond .eq 24, 3) := by decide +kernel
theorem dX9_most_55 : decode cX9_most 55 = .ok (.aload_n 0, 1) := by decide +kernel
theorem dX9_most_56 : decode cX9_most 56 = .ok (.getfield 48, 3) := by decide +kernel
theorem dX9_most_59 : decode cX9_most 59 = .ok (.aload_n 3, 1) := by decide +kernel
theorem dX9_most_60 : decode cX9_most 60 = .ok (.getfield 140, 3) := by decide +kernel
theorem dX9_most_63 : decode cX9_most 63 = .ok (.invokevirtual 185, 3) := by decide +kernel
theorem dX9_most_66 : decode cX9_most 66 = .ok (.ifCond .ne 10, 3) := by decide +kernel
theorem dX9_most_69 : decode cX9_most 69 = .ok (.aload_n 0, 1) := by decide +kernel
theorem dX9_most_70 : decode cX9_most 70 = .ok (.bipush 6, 2) := by decide +kernel
theorem dX9_most_72 : decode cX9_most 72 = .ok (.invokevirtual 73, 3) := by decide +kernel
theorem dX9_most_75 : decode cX9_most 75 = .ok (.ireturn, 1) := by decide +kernel
theorem dX9_most_76 : decode cX9_most 76 = .ok (.iinc 2 1, 3) := by decide +kernel
theorem dX9_most_79 : decode cX9_most 79 = .ok (.goto (-56), 3) := by decide +kernel
theorem dX9_most_82 : decode cX9_most 82 = .ok (.aload_n 0, 1) := by decide +kernel
theorem dX9_most_83 : decode cX9_most 83 = .ok (.aload_n 0, 1) := by decide +kernel
theorem dX9_most_84 : decode cX9_most 84 = .ok (.getfield 48, 3) := by decide +kernel
theorem dX9_most_87 : decode cX9_most 87 = .ok (.aload_n 0, 1) := by decide +kernel
theorem dX9_most_88 : decode cX9_most 88 = .ok (.getfield 56, 3) := by decide +kernel
theorem dX9_most_91 : decode cX9_most 91 = .ok (.aload_n 0, 1) := by decide +kernel
theorem dX9_most_92 : decode cX9_most 92 = .ok (.getfield 60, 3) := by decide +kernel
theorem dX9_most_95 : decode cX9_most 95 = .ok (.invokevirtual 188, 3) := by decide +kernel
theorem dX9_most_98 : decode cX9_most 98 = .ok (.invokevirtual 90, 3) := by decide +kernel
theorem dX9_most_101 : decode cX9_most 101 = .ok (.ireturn, 1) := by decide +kernel
theorem dX9_quill_0 : decode cX9_quill 0 = .ok (.aload_n 0, 1) := by decide +kernel
theorem dX9_quill_1 : decode cX9_quill 1 = .ok (.iload_n 1, 1) := by decide +kernel
theorem dX9_quill_2 : decode cX9_quill 2 = .ok (.invokevirtual 192, 3) := by decide +kernel
theorem dX9_quill_5 : decode cX9_quill 5 = .ok (.ifCond .ne 5, 3) := by decide +kernel
theorem dX9_quill_8 : decode cX9_quill 8 = .ok (.iconst (-1), 1) := by decide +kernel
theorem dX9_quill_9 : decode cX9_quill 9 = .ok (.ireturn, 1) := by decide +kernel
theorem dX9_quill_10 : decode cX9_quill 10 = .ok (.aload_n 0, 1) := by decide +kernel
theorem dX9_quill_11 : decode cX9_quill 11 = .ok (.getfield 22, 3) := by decide +kernel
theorem dX9_quill_14 : decode cX9_quill 14 = .ok (.iload_n 1, 1) := by decide +kernel
theorem dX9_quill_15 : decode cX9_quill 15 = .ok (.invokevirtual 113, 3) := by decide +kernel
theorem dX9_quill_18 : decode cX9_quill 18 = .ok (.checkcast 170, 3) := by decide +kernel
theorem dX9_quill_21 : decode cX9_quill 21 = .ok (.astore_n 3, 1) := by decide +kernel
theorem dX9_quill_22 : decode cX9_quill 22 = .ok (.iload_n 2, 1) := by decide +kernel
theorem dX9_quill_23 : decode cX9_quill 23 = .ok (.tableswitch 67 0 5 #[37, 42, 47, 52, 57, 62], 37) := by decide +kernel
theorem dX9_quill_60 : decode cX9_quill 60 = .ok (.aload_n 3, 1) := by decide +kernel
theorem dX9_quill_61 : decode cX9_quill 61 = .ok (.getfield 195, 3) := by decide +kernel
theorem dX9_quill_64 : decode cX9_quill 64 = .ok (.ireturn, 1) := by decide +kernel
theorem dX9_quill_65 : decode cX9_quill 65 = .ok (.aload_n 3, 1) := by decide +kernel
theorem dX9_quill_66 : decode cX9_quill 66 = .ok (.invokevirtual 196, 3) := by decide +kernel
theorem dX9_quill_69 : decode cX9_quill 69 = .ok (.ireturn, 1) := by decide +kernel
theorem dX9_quill_70 : decode cX9_quill 70 = .ok (.aload_n 3, 1) := by decide +kernel
theorem dX9_quill_71 : decode cX9_quill 71 = .ok (.invokevirtual 199, 3) := by decide +kernel
theorem dX9_quill_74 : decode cX9_quill 74 = .ok (.ireturn, 1) := by decide +kernel
theorem dX9_quill_75 : decode cX9_quill 75 = .ok (.aload_n 3, 1) := by decide +kernel
theorem dX9_quill_76 : decode cX9_quill 76 = .ok (.getfield 200, 3) := by decide +kernel
theorem dX9_quill_79 : decode cX9_quill 79 = .ok (.ireturn, 1) := by decide +kernel
theorem dX9_quill_80 : decode cX9_quill 80 = .ok (.aload_n 3, 1) := by decide +kernel
theorem dX9_quill_81 : decode cX9_quill 81 = .ok (.getfield 201, 3) := by decide +kernel
theorem dX9_quill_84 : decode cX9_quill 84 = .ok (.ireturn, 1) := by decide +kernel
theorem dX9_quill_85 : decode cX9_quill 85 = .ok (.aload_n 3, 1) := by decide +kernel
theorem dX9_quill_86 : decode cX9_quill 86 = .ok (.getfield 204, 3) := by decide +kernel
theorem dX9_quill_89 : decode cX9_quill 89 = .ok (.ireturn, 1) := by decide +kernel
theorem dX9_quill_90 : decode cX9_quill 90 = .ok (.iconst (-1), 1) := by decide +kernel
theorem dX9_quill_91 : decode cX9_quill 91 = .ok (.ireturn, 1) := by decide +kernel
theorem dX9_part_0 : decode cX9_part 0 = .ok (.aload_n 0, 1) := by decide +kernel
theorem dX9_part_1 : decode cX9_part 1 = .ok (.iload_n 1, 1) := by decide +kernel
theorem dX9_part_2 : decode cX9_part 2 = .ok (.invokevirtual 192, 3) := by decide +kernel
theorem dX9_part_5 : decode cX9_part 5 = .ok (.ifCond .eq 25, 3) := by decide +kernel
theorem dX9_part_8 : decode cX9_part 8 = .ok (.iload_n 2, 1) := by decide +kernel
theorem dX9_part_9 : decode cX9_part 9 = .ok (.ifCond .lt 21, 3) := by decide +kernel
theorem dX9_part_12 : decode cX9_part 12 = .ok (.iload_n 2, 1) := by decide +kernel
theorem dX9_part_13 : decode cX9_part 13 = .ok (.aload_n 0, 1) := by decide +kernel
theorem dX9_part_14 : decode cX9_part 14 = .ok (.getfield 22, 3) := by decide +kernel
theorem dX9_part_17 : decode cX9_part 17 = .ok (.iload_n 1, 1) := by decide +kernel
theorem dX9_part_18 : decode cX9_part 18 = .ok (.invokevirtual 113, 3) := by decide +kernel
theorem dX9_part_21 : decode cX9_part 21 = .ok (.checkcast 170, 3) := by decide +kernel
theorem dX9_part_24 : decode cX9_part 24 = .ok (.invokevirtual 199, 3) := by decide +kernel
theorem dX9_part_27 : decode cX9_part 27 = .ok (.if_icmp .lt 13, 3) := by decide +kernel
theorem dX9_part_30 : decode cX9_part 30 = .ok (.new 205, 3) := by decide +kernel
theorem dX9_part_33 : decode cX9_part 33 = .ok (.dup, 1) := by decide +kernel
theorem dX9_part_34 : decode cX9_part 34 = .ok (.ldc 207, 2) := by decide +kernel
theorem dX9_part_36 : decode cX9_part 36 = .ok (.invokespecial 209, 3) := by decide +kernel
theorem dX9_part_39 : decode cX9_part 39 = .ok (.athrow, 1) := by decide +kernel
theorem dX9_part_40 : decode cX9_part 40 = .ok (.aload_n 0, 1) := by decide +kernel
theorem dX9_part_41 : decode cX9_part 41 = .ok (.getfield 22, 3) := by decide +kernel
theorem dX9_part_44 : decode cX9_part 44 = .ok (.iload_n 1, 1) := by decide +kernel
theorem dX9_part_45 : decode cX9_part 45 = .ok (.invokevirtual 113, 3) := by decide +kernel
theorem dX9_part_48 : decode cX9_part 48 = .ok (.checkcast 170, 3) := by decide +kernel
theorem dX9_part_51 : decode cX9_part 51 = .ok (.iload_n 2, 1) := by decide +kernel
theorem dX9_part_52 : decode cX9_part 52 = .ok (.invokevirtual 212, 3) := by decide +kernel
theorem dX9_part_55 : decode cX9_part 55 = .ok (.ireturn, 1) := by decide +kernel
theorem dX9_bale_0 : decode cX9_bale 0 = .ok (.aload_n 0, 1) := by decide +kernel
theorem dX9_bale_1 : decode cX9_bale 1 = .ok (.iload_n 1, 1) := by decide +kernel
theorem dX9_bale_2 : decode cX9_bale 2 = .ok (.invokevirtual 93, 3) := by decide +kernel
theorem dX9_bale_5 : decode cX9_bale 5 = .ok (.ifCond .eq 10, 3) := by decide +kernel
theorem dX9_bale_8 : decode cX9_bale 8 = .ok (.iload_n 2, 1) := by decide +kernel
theorem dX9_bale_9 : decode cX9_bale 9 = .ok (.invokestatic 103, 3) := by decide +kernel
theorem dX9_bale_12 : decode cX9_bale 12 = .ok (.ifCond .ne 9, 3) := by decide +kernel
theorem dX9_bale_15 : decode cX9_bale 15 = .ok (.aload_n 0, 1) := by decide +kernel
theorem dX9_bale_16 : decode cX9_bale 16 = .ok (.iconst 1, 1) := by decide +kernel
theorem dX9_bale_17 : decode cX9_bale 17 = .ok (.invokevirtual 73, 3) := by decide +kernel
theorem dX9_bale_20 : decode cX9_bale 20 = .ok (.ireturn, 1) := by decide +kernel
theorem dX9_bale_21 : decode cX9_bale 21 = .ok (.aload_n 0, 1) := by decide +kernel
theorem dX9_bale_22 : decode cX9_bale 22 = .ok (.iload_n 1, 1) := by decide +kernel
theorem dX9_bale_23 : decode cX9_bale 23 = .ok (.iload_n 2, 1) := by decide +kernel
theorem dX9_bale_24 : decode cX9_bale 24 = .ok (.invokevirtual 215, 3) := by decide +kernel
theorem dX9_bale_27 : decode cX9_bale 27 = .ok (.iconst 5, 1) := by decide +kernel
theorem dX9_bale_28 : decode cX9_bale 28 = .ok (.if_icmp .ge 9, 3) := by decide +kernel
theorem dX9_bale_31 : decode cX9_bale 31 = .ok (.aload_n 0, 1) := by decide +kernel
theorem dX9_bale_32 : decode cX9_bale 32 = .ok (.iconst 5, 1) := by decide +kernel
theorem dX9_bale_33 : decode cX9_bale 33 = .ok (.invokevirtual 73, 3) := by decide +kernel
theorem dX9_bale_36 : decode cX9_bale 36 = .ok (.ireturn, 1) := by decide +kernel
theorem dX9_bale_37 : decode cX9_bale 37 = .ok (.aload_n 0, 1) := by decide +kernel
theorem dX9_bale_38 : decode cX9_bale 38 = .ok (.iload_n 2, 1) := by decide +kernel
theorem dX9_bale_39 : decode cX9_bale 39 = .ok (.invokevirtual 218, 3) := by decide +kernel
theorem dX9_bale_42 : decode cX9_bale 42 = .ok (.istore_n 3, 1) := by decide +kernel
theorem dX9_bale_43 : decode cX9_bale 43 = .ok (.aload_n 0, 1) := by decide +kernel
theorem dX9_bale_44 : decode cX9_bale 44 = .ok (.getfield 25, 3) := by decide +kernel
theorem dX9_bale_47 : decode cX9_bale 47 = .ok (.invokevirtual 77, 3) := by decide +kernel
theorem dX9_bale_50 : decode cX9_bale 50 = .ok (.bipush 60, 2) := by decide +kernel
theorem dX9_bale_52 : decode cX9_bale 52 = .ok (.if_icmp .ge 9, 3) := by decide +kernel
theorem dX9_bale_55 : decode cX9_bale 55 = .ok (.iload_n 3, 1) := by decide +kernel
theorem dX9_bale_56 : decode cX9_bale 56 = .ok (.bipush 20, 2) := by decide +kernel
theorem dX9_bale_58 : decode cX9_bale 58 = .ok (.if_icmp .lt 9, 3) := by decide +kernel
theorem dX9_bale_61 : decode cX9_bale 61 = .ok (.aload_n 0, 1) := by decide +kernel
theorem dX9_bale_62 : decode cX9_bale 62 = .ok (.iconst 3, 1) := by decide +kernel
theorem dX9_bale_63 : decode cX9_bale 63 = .ok (.invokevirtual 73, 3) := by decide +kernel
theorem dX9_bale_66 : decode cX9_bale 66 = .ok (.ireturn, 1) := by decide +kernel
theorem dX9_bale_67 : decode cX9_bale 67 = .ok (.aload_n 0, 1) := by decide +kernel
theorem dX9_bale_68 : decode cX9_bale 68 = .ok (.getfield 25, 3) := by decide +kernel
theorem dX9_bale_71 : decode cX9_bale 71 = .ok (.invokevirtual 77, 3) := by decide +kernel
theorem dX9_bale_74 : decode cX9_bale 74 = .ok (.istore 4, 2) := by decide +kernel
theorem dX9_bale_76 : decode cX9_bale 76 = .ok (.aload_n 0, 1) := by decide +kernel
theorem dX9_bale_77 : decode cX9_bale 77 = .ok (.iload_n 1, 1) := by decide +kernel
theorem dX9_bale_78 : decode cX9_bale 78 = .ok (.iload_n 2, 1) := by decide +kernel
theorem dX9_bale_79 : decode cX9_bale 79 = .ok (.iload 4, 2) := by decide +kernel
theorem dX9_bale_81 : decode cX9_bale 81 = .ok (.invokevirtual 221, 3) := by decide +kernel
theorem dX9_bale_84 : decode cX9_bale 84 = .ok (.aload_n 0, 1) := by decide +kernel
theorem dX9_bale_85 : decode cX9_bale 85 = .ok (.getfield 25, 3) := by decide +kernel
theorem dX9_bale_88 : decode cX9_bale 88 = .ok (.aload_n 0, 1) := by decide +kernel
theorem dX9_bale_89 : decode cX9_bale 89 = .ok (.iload_n 1, 1) := by decide +kernel
theorem dX9_bale_90 : decode cX9_bale 90 = .ok (.iload_n 2, 1) := by decide +kernel
theorem dX9_bale_91 : decode cX9_bale 91 = .ok (.iload_n 3, 1) := by decide +kernel
theorem dX9_bale_92 : decode cX9_bale 92 = .ok (.invokevirtual 224, 3) := by decide +kernel
theorem dX9_bale_95 : decode cX9_bale 95 = .ok (.invokevirtual 86, 3) := by decide +kernel
theorem dX9_bale_98 : decode cX9_bale 98 = .ok (.pop, 1) := by decide +kernel
theorem dX9_bale_99 : decode cX9_bale 99 = .ok (.aload_n 0, 1) := by decide +kernel
theorem dX9_bale_100 : decode cX9_bale 100 = .ok (.iload_n 3, 1) := by decide +kernel
theorem dX9_bale_101 : decode cX9_bale 101 = .ok (.iload_n 2, 1) := by decide +kernel
theorem dX9_bale_102 : decode cX9_bale 102 = .ok (.iload 4, 2) := by decide +kernel
theorem dX9_bale_104 : decode cX9_bale 104 = .ok (.invokevirtual 228, 3) := by decide +kernel
theorem dX9_bale_107 : decode cX9_bale 107 = .ok (.aload_n 0, 1) := by decide +kernel
theorem dX9_bale_108 : decode cX9_bale 108 = .ok (.iload 4, 2) := by decide +kernel
theorem dX9_bale_110 : decode cX9_bale 110 = .ok (.invokevirtual 90, 3) := by decide +kernel
theorem dX9_bale_113 : decode cX9_bale 113 = .ok (.ireturn, 1) := by decide +kernel
theorem dX9_baleOf_0 : decode cX9_baleOf 0 = .ok (.aload_n 0, 1) := by decide +kernel
theorem dX9_baleOf_1 : decode cX9_baleOf 1 = .ok (.iload_n 1, 1) := by decide +kernel
theorem dX9_baleOf_2 : decode cX9_baleOf 2 = .ok (.invokevirtual 231, 3) := by decide +kernel
theorem dX9_baleOf_5 : decode cX9_baleOf 5 = .ok (.ifCond .ne 5, 3) := by decide +kernel
theorem dX9_baleOf_8 : decode cX9_baleOf 8 = .ok (.iconst (-1), 1) := by decide +kernel
theorem dX9_baleOf_9 : decode cX9_baleOf 9 = .ok (.ireturn, 1) := by decide +kernel
theorem dX9_baleOf_10 : decode cX9_baleOf 10 = .ok (.aload_n 0, 1) := by decide +kernel
theorem dX9_baleOf_11 : decode cX9_baleOf 11 = .ok (.getfield 25, 3) := by decide +kernel
theorem dX9_baleOf_14 : decode cX9_baleOf 14 = .ok (.iload_n 1, 1) := by decide +kernel
theorem dX9_baleOf_15 : decode cX9_baleOf 15 = .ok (.invokevirtual 113, 3) := by decide +kernel
theorem dX9_baleOf_18 : decode cX9_baleOf 18 = .ok (.checkcast 234, 3) := by decide +kernel
theorem dX9_baleOf_21 : decode cX9_baleOf 21 = .ok (.astore_n 3, 1) := by decide +kernel
theorem dX9_baleOf_22 : decode cX9_baleOf 22 = .ok (.iload_n 2, 1) := by decide +kernel
theorem dX9_baleOf_23 : decode cX9_baleOf 23 = .ok (.tableswitch 75 0 5 #[37, 42, 47, 52, 57, 70], 37) := by decide +kernel
theorem dX9_baleOf_60 : decode cX9_baleOf 60 = .ok (.aload_n 3, 1) := by decide +kernel
theorem dX9_baleOf_61 : decode cX9_baleOf 61 = .ok (.getfield 236, 3) := by decide +kernel
theorem dX9_baleOf_64 : decode cX9_baleOf 64 = .ok (.ireturn, 1) := by decide +kernel
theorem dX9_baleOf_65 : decode cX9_baleOf 65 = .ok (.aload_n 3, 1) := by decide +kernel
theorem dX9_baleOf_66 : decode cX9_baleOf 66 = .ok (.getfield 237, 3) := by decide +kernel
theorem dX9_baleOf_69 : decode cX9_baleOf 69 = .ok (.ireturn, 1) := by decide +kernel
theorem dX9_baleOf_70 : decode cX9_baleOf 70 = .ok (.aload_n 3, 1) := by decide +kernel
theorem dX9_baleOf_71 : decode cX9_baleOf 71 = .ok (.getfield 239, 3) := by decide +kernel
theorem dX9_baleOf_74 : decode cX9_baleOf 74 = .ok (.ireturn, 1) := by decide +kernel
theorem dX9_baleOf_75 : decode cX9_baleOf 75 = .ok (.aload_n 3, 1) := by decide +kernel
theorem dX9_baleOf_76 : decode cX9_baleOf 76 = .ok (.getfield 240, 3) := by decide +kernel
theorem dX9_baleOf_79 : decode cX9_baleOf 79 = .ok (.ireturn, 1) := by decide +kernel
theorem dX9_baleOf_80 : decode cX9_baleOf 80 = .ok (.aload_n 3, 1) := by decide +kernel
theorem dX9_baleOf_81 : decode cX9_baleOf 81 = .ok (.getfield 243, 3) := by decide +kernel
theorem dX9_baleOf_84 : decode cX9_baleOf 84 = .ok (.ifCond .eq 7, 3) := by decide +kernel
theorem dX9_baleOf_87 : decode cX9_baleOf 87 = .ok (.iconst 1, 1) := by decide +kernel
theorem dX9_baleOf_88 : decode cX9_baleOf 88 = .ok (.goto 4, 3) := by decide +kernel
theorem dX9_baleOf_91 : decode cX9_baleOf 91 = .ok (.iconst 0, 1) := by decide +kernel
theorem dX9_baleOf_92 : decode cX9_baleOf 92 = .ok (.ireturn, 1) := by decide +kernel
theorem dX9_baleOf_93 : decode cX9_baleOf 93 = .ok (.aload_n 3, 1) := by decide +kernel
theorem dX9_baleOf_94 : decode cX9_baleOf 94 = .ok (.getfield 247, 3) := by decide +kernel
theorem dX9_baleOf_97 : decode cX9_baleOf 97 = .ok (.ireturn, 1) := by decide +kernel
theorem dX9_baleOf_98 : decode cX9_baleOf 98 = .ok (.iconst (-1), 1) := by decide +kernel
theorem dX9_baleOf_99 : decode cX9_baleOf 99 = .ok (.ireturn, 1) := by decide +kernel
theorem dX9_about_0 : decode cX9_about 0 = .ok (.aload_n 0, 1) := by decide +kernel
theorem dX9_about_1 : decode cX9_about 1 = .ok (.iload_n 1, 1) := by decide +kernel
theorem dX9_about_2 : decode cX9_about 2 = .ok (.invokevirtual 93, 3) := by decide +kernel
theorem dX9_about_5 : decode cX9_about 5 = .ok (.ifCond .ne 5, 3) := by decide +kernel
theorem dX9_about_8 : decode cX9_about 8 = .ok (.iconst (-1), 1) := by decide +kernel
theorem dX9_about_9 : decode cX9_about 9 = .ok (.ireturn, 1) := by decide +kernel
theorem dX9_about_10 : decode cX9_about 10 = .ok (.aload_n 0, 1) := by decide +kernel
theorem dX9_about_11 : decode cX9_about 11 = .ok (.getfield 10, 3) := by decide +kernel
theorem dX9_about_14 : decode cX9_about 14 = .ok (.iload_n 1, 1) := by decide +kernel
theorem dX9_about_15 : decode cX9_about 15 = .ok (.invokevirtual 113, 3) := by decide +kernel
theorem dX9_about_18 : decode cX9_about 18 = .ok (.checkcast 81, 3) := by decide +kernel
theorem dX9_about_21 : decode cX9_about 21 = .ok (.astore_n 3, 1) := by decide +kernel
theorem dX9_about_22 : decode cX9_about 22 = .ok (.iload_n 2, 1) := by decide +kernel
theorem dX9_about_23 : decode cX9_about 23 = .ok (.tableswitch 69 0 5 #[37, 42, 47, 52, 57, 63], 37) := by decide +kernel
theorem dX9_about_60 : decode cX9_about 60 = .ok (.aload_n 3, 1) := by decide +kernel
theorem dX9_about_61 : decode cX9_about 61 = .ok (.getfield 250, 3) := by decide +kernel
theorem dX9_about_64 : decode cX9_about 64 = .ok (.ireturn, 1) := by decide +kernel
theorem dX9_about_65 : decode cX9_about 65 = .ok (.aload_n 3, 1) := by decide +kernel
theorem dX9_about_66 : decode cX9_about 66 = .ok (.getfield 253, 3) := by decide +kernel
theorem dX9_about_69 : decode cX9_about 69 = .ok (.ireturn, 1) := by decide +kernel
theorem dX9_about_70 : decode cX9_about 70 = .ok (.aload_n 3, 1) := by decide +kernel
theorem dX9_about_71 : decode cX9_about 71 = .ok (.getfield 256, 3) := by decide +kernel
theorem dX9_about_74 : decode cX9_about 74 = .ok (.ireturn, 1) := by decide +kernel
theorem dX9_about_75 : decode cX9_about 75 = .ok (.aload_n 3, 1) := by decide +kernel
theorem dX9_about_76 : decode cX9_about 76 = .ok (.getfield 259, 3) := by decide +kernel
theorem dX9_about_79 : decode cX9_about 79 = .ok (.ireturn, 1) := by decide +kernel
theorem dX9_about_80 : decode cX9_about 80 = .ok (.aload_n 0, 1) := by decide +kernel
theorem dX9_about_81 : decode cX9_about 81 = .ok (.iload_n 1, 1) := by decide +kernel
theorem dX9_about_82 : decode cX9_about 82 = .ok (.invokevirtual 260, 3) := by decide +kernel
theorem dX9_about_85 : decode cX9_about 85 = .ok (.ireturn, 1) := by decide +kernel
theorem dX9_about_86 : decode cX9_about 86 = .ok (.aload_n 0, 1) := by decide +kernel
theorem dX9_about_87 : decode cX9_about 87 = .ok (.iload_n 1, 1) := by decide +kernel
theorem dX9_about_88 : decode cX9_about 88 = .ok (.invokevirtual 263, 3) := by decide +kernel
theorem dX9_about_91 : decode cX9_about 91 = .ok (.ireturn, 1) := by decide +kernel
theorem dX9_about_92 : decode cX9_about 92 = .ok (.iconst (-1), 1) := by decide +kernel
theorem dX9_about_93 : decode cX9_about 93 = .ok (.ireturn, 1) := by decide +kernel
theorem dX9_chest_0 : decode cX9_chest 0 = .ok (.aload_n 0, 1) := by decide +kernel
theorem dX9_chest_1 : decode cX9_chest 1 = .ok (.iload_n 1, 1) := by decide +kernel
theorem dX9_chest_2 : decode cX9_chest 2 = .ok (.invokevirtual 266, 3) := by decide +kernel
theorem dX9_chest_5 : decode cX9_chest 5 = .ok (.ifCond .ne 5, 3) := by decide +kernel
theorem dX9_chest_8 : decode cX9_chest 8 = .ok (.iconst (-1), 1) := by decide +kernel
theorem dX9_chest_9 : decode cX9_chest 9 = .ok (.ireturn, 1) := by decide +kernel
theorem dX9_chest_10 : decode cX9_chest 10 = .ok (.aload_n 0, 1) := by decide +kernel
theorem dX9_chest_11 : decode cX9_chest 11 = .ok (.getfield 28, 3) := by decide +kernel
theorem dX9_chest_14 : decode cX9_chest 14 = .ok (.iload_n 1, 1) := by decide +kernel
theorem dX9_chest_15 : decode cX9_chest 15 = .ok (.invokevirtual 113, 3) := by decide +kernel
theorem dX9_chest_18 : decode cX9_chest 18 = .ok (.checkcast 269, 3) := by decide +kernel
theorem dX9_chest_21 : decode cX9_chest 21 = .ok (.astore_n 3, 1) := by decide +kernel
theorem dX9_chest_22 : decode cX9_chest 22 = .ok (.iload_n 2, 1) := by decide +kernel
theorem dX9_chest_23 : decode cX9_chest 23 = .ok (.tableswitch 40 0 2 #[25, 30, 35], 25) := by decide +kernel
theorem dX9_chest_48 : decode cX9_chest 48 = .ok (.aload_n 3, 1) := by decide +kernel
theorem dX9_chest_49 : decode cX9_chest 49 = .ok (.getfield 271, 3) := by decide +kernel
theorem dX9_chest_52 : decode cX9_chest 52 = .ok (.ireturn, 1) := by decide +kernel
theorem dX9_chest_53 : decode cX9_chest 53 = .ok (.aload_n 3, 1) := by decide +kernel
theorem dX9_chest_54 : decode cX9_chest 54 = .ok (.getfield 272, 3) := by decide +kernel
theorem dX9_chest_57 : decode cX9_chest 57 = .ok (.ireturn, 1) := by decide +kernel
theorem dX9_chest_58 : decode cX9_chest 58 = .ok (.aload_n 3, 1) := by decide +kernel
theorem dX9_chest_59 : decode cX9_chest 59 = .ok (.getfield 275, 3) := by decide +kernel
theorem dX9_chest_62 : decode cX9_chest 62 = .ok (.ireturn, 1) := by decide +kernel
theorem dX9_chest_63 : decode cX9_chest 63 = .ok (.iconst (-1), 1) := by decide +kernel
theorem dX9_chest_64 : decode cX9_chest 64 = .ok (.ireturn, 1) := by decide +kernel
theorem dX9_share_0 : decode cX9_share 0 = .ok (.aload_n 0, 1) := by decide +kernel
theorem dX9_share_1 : decode cX9_share 1 = .ok (.iload_n 1, 1) := by decide +kernel
theorem dX9_share_2 : decode cX9_share 2 = .ok (.invokevirtual 266, 3) := by decide +kernel
theorem dX9_share_5 : decode cX9_share 5 = .ok (.ifCond .eq 11, 3) := by decide +kernel
theorem dX9_share_8 : decode cX9_share 8 = .ok (.aload_n 0, 1) := by decide +kernel
theorem dX9_share_9 : decode cX9_share 9 = .ok (.iload_n 2, 1) := by decide +kernel
theorem dX9_share_10 : decode cX9_share 10 = .ok (.invokevirtual 110, 3) := by decide +kernel
theorem dX9_share_13 : decode cX9_share 13 = .ok (.ifCond .ne 5, 3) := by decide +kernel
theorem dX9_share_16 : decode cX9_share 16 = .ok (.iconst (-1), 1) := by decide +kernel
theorem dX9_share_17 : decode cX9_share 17 = .ok (.ireturn, 1) := by decide +kernel
theorem dX9_share_18 : decode cX9_share 18 = .ok (.iconst 0, 1) := by decide +kernel
theorem dX9_share_19 : decode cX9_share 19 = .ok (.istore_n 3, 1) := by decide +kernel
theorem dX9_share_20 : decode cX9_share 20 = .ok (.iconst 0, 1) := by decide +kernel
theorem dX9_share_21 : decode cX9_share 21 = .ok (.istore 4, 2) := by decide +kernel
theorem dX9_share_23 : decode cX9_share 23 = .ok (.iload 4, 2) := by decide +kernel
theorem dX9_share_25 : decode cX9_share 25 = .ok (.aload_n 0, 1) := by decide +kernel
theorem dX9_share_26 : decode cX9_share 26 = .ok (.getfield 19, 3) := by decide +kernel
theorem dX9_share_29 : decode cX9_share 29 = .ok (.invokevirtual 77, 3) := by decide +kernel
theorem dX9_share_32 : decode cX9_share 32 = .ok (.if_icmp .ge 50, 3) := by decide +kernel
theorem dX9_share_35 : decode cX9_share 35 = .ok (.aload_n 0, 1) := by decide +kernel
theorem dX9_share_36 : decode cX9_share 36 = .ok (.getfield 19, 3) := by decide +kernel
theorem dX9_share_39 : decode cX9_share 39 = .ok (.iload 4, 2) := by decide +kernel
theorem dX9_share_41 : decode cX9_share 41 = .ok (.invokevirtual 113, 3) := by decide +kernel
theorem dX9_share_44 : decode cX9_share 44 = .ok (.checkcast 120, 3) := by decide +kernel
theorem dX9_share_47 : decode cX9_share 47 = .ok (.astore 5, 2) := by decide +kernel
theorem dX9_share_49 : decode cX9_share 49 = .ok (.aload 5, 2) := by decide +kernel
theorem dX9_share_51 : decode cX9_share 51 = .ok (.getfield 137, 3) := by decide +kernel
theorem dX9_share_54 : decode cX9_share 54 = .ok (.iload_n 2, 1) := by decide +kernel
theorem dX9_share_55 : decode cX9_share 55 = .ok (.if_icmp .ne 21, 3) := by decide +kernel
theorem dX9_share_58 : decode cX9_share 58 = .ok (.aload_n 0, 1) := by decide +kernel
theorem dX9_share_59 : decode cX9_share 59 = .ok (.aload 5, 2) := by decide +kernel
theorem dX9_share_61 : decode cX9_share 61 = .ok (.invokevirtual 278, 3) := by decide +kernel
theorem dX9_share_64 : decode cX9_share 64 = .ok (.iload_n 1, 1) := by decide +kernel
theorem dX9_share_65 : decode cX9_share 65 = .ok (.if_icmp .ne 11, 3) := by decide +kernel
theorem dX9_share_68 : decode cX9_share 68 = .ok (.iload_n 3, 1) := by decide +kernel
theorem dX9_share_69 : decode cX9_share 69 = .ok (.aload 5, 2) := by decide +kernel
theorem dX9_share_71 : decode cX9_share 71 = .ok (.getfield 140, 3) := by decide +kernel
theorem dX9_share_74 : decode cX9_share 74 = .ok (.iadd, 1) := by decide +kernel
theorem dX9_share_75 : decode cX9_share 75 = .ok (.istore_n 3, 1) := by decide +kernel
theorem dX9_share_76 : decode cX9_share 76 = .ok (.iinc 4 1, 3) := by decide +kernel
theorem dX9_share_79 : decode cX9_share 79 = .ok (.goto (-56), 3) := by decide +kernel
theorem dX9_share_82 : decode cX9_share 82 = .ok (.iload_n 3, 1) := by decide +kernel
theorem dX9_share_83 : decode cX9_share 83 = .ok (.ireturn, 1) := by decide +kernel
theorem dX9_traced_0 : decode cX9_traced 0 = .ok (.aload_n 0, 1) := by decide +kernel
theorem dX9_traced_1 : decode cX9_traced 1 = .ok (.iload_n 1, 1) := by decide +kernel
theorem dX9_traced_2 : decode cX9_traced 2 = .ok (.invokevirtual 110, 3) := by decide +kernel
theorem dX9_traced_5 : decode cX9_traced 5 = .ok (.ifCond .ne 5, 3) := by decide +kernel
theorem dX9_traced_8 : decode cX9_traced 8 = .ok (.iconst (-1), 1) := by decide +kernel
theorem dX9_traced_9 : decode cX9_traced 9 = .ok (.ireturn, 1) := by decide +kernel
theorem dX9_traced_10 : decode cX9_traced 10 = .ok (.bipush (-2), 2) := by decide +kernel
theorem dX9_traced_12 : decode cX9_traced 12 = .ok (.istore 4, 2) := by decide +kernel
theorem dX9_traced_14 : decode cX9_traced 14 = .ok (.iconst 0, 1) := by decide +kernel
theorem dX9_traced_15 : decode cX9_traced 15 = .ok (.istore 5, 2) := by decide +kernel
theorem dX9_traced_17 : decode cX9_traced 17 = .ok (.iload 5, 2) := by decide +kernel
theorem dX9_traced_19 : decode cX9_traced 19 = .ok (.aload_n 0, 1) := by decide +kernel
theorem dX9_traced_20 : decode cX9_traced 20 = .ok (.getfield 19, 3) := by decide +kernel
theorem dX9_traced_23 : decode cX9_traced 23 = .ok (.invokevirtual 77, 3) := by decide +kernel
theorem dX9_traced_26 : decode cX9_traced 26 = .ok (.if_icmp .ge 77, 3) := by decide +kernel
theorem dX9_traced_29 : decode cX9_traced 29 = .ok (.aload_n 0, 1) := by decide +kernel
theorem dX9_traced_30 : decode cX9_traced 30 = .ok (.getfield 19, 3) := by decide +kernel
theorem dX9_traced_33 : decode cX9_traced 33 = .ok (.iload 5, 2) := by decide +kernel
theorem dX9_traced_35 : decode cX9_traced 35 = .ok (.invokevirtual 113, 3) := by decide +kernel
theorem dX9_traced_38 : decode cX9_traced 38 = .ok (.checkcast 120, 3) := by decide +kernel
theorem dX9_traced_41 : decode cX9_traced 41 = .ok (.astore 6, 2) := by decide +kernel
theorem dX9_traced_43 : decode cX9_traced 43 = .ok (.aload 6, 2) := by decide +kernel
theorem dX9_traced_45 : decode cX9_traced 45 = .ok (.getfield 137, 3) := by decide +kernel
theorem dX9_traced_48 : decode cX9_traced 48 = .ok (.iload_n 1, 1) := by decide +kernel
theorem dX9_traced_49 : decode cX9_traced 49 = .ok (.if_icmp .ne 48, 3) := by decide +kernel
theorem dX9_traced_52 : decode cX9_traced 52 = .ok (.aload 6, 2) := by decide +kernel
theorem dX9_traced_54 : decode cX9_traced 54 = .ok (.getfield 149, 3) := by decide +kernel
theorem dX9_traced_57 : decode cX9_traced 57 = .ok (.iload_n 2, 1) := by decide +kernel
theorem dX9_traced_58 : decode cX9_traced 58 = .ok (.iload_n 3, 1) := by decide +kernel
theorem dX9_traced_59 : decode cX9_traced 59 = .ok (.invokestatic 69, 3) := by decide +kernel
theorem dX9_traced_62 : decode cX9_traced 62 = .ok (.ifCond .eq 35, 3) := by decide +kernel
theorem dX9_traced_65 : decode cX9_traced 65 = .ok (.aload_n 0, 1) := by decide +kernel
theorem dX9_traced_66 : decode cX9_traced 66 = .ok (.aload 6, 2) := by decide +kernel
theorem dX9_traced_68 : decode cX9_traced 68 = .ok (.invokevirtual 278, 3) := by decide +kernel
theorem dX9_traced_71 : decode cX9_traced 71 = .ok (.istore 7, 2) := by decide +kernel
theorem dX9_traced_73 : decode cX9_traced 73 = .ok (.iload 7, 2) := by decide +kernel
theorem dX9_traced_75 : decode cX9_traced 75 = .ok (.iconst (-1), 1) := by decide +kernel
theorem dX9_traced_76 : decode cX9_traced 76 = .ok (.if_icmp .eq 21, 3) := by decide +kernel
theorem dX9_traced_79 : decode cX9_traced 79 = .ok (.iload 4, 2) := by decide +kernel
theorem dX9_traced_81 : decode cX9_traced 81 = .ok (.bipush (-2), 2) := by decide +kernel
theorem dX9_traced_83 : decode cX9_traced 83 = .ok (.if_icmp .eq 10, 3) := by decide +kernel
theorem dX9_traced_86 : decode cX9_traced 86 = .ok (.iload 7, 2) := by decide +kernel
theorem dX9_traced_88 : decode cX9_traced 88 = .ok (.iload 4, 2) := by decide +kernel
theorem dX9_traced_90 : decode cX9_traced 90 = .ok (.if_icmp .ge 7, 3) := by decide +kernel
theorem dX9_traced_93 : decode cX9_traced 93 = .ok (.iload 7, 2) := by decide +kernel
theorem dX9_traced_95 : decode cX9_traced 95 = .ok (.istore 4, 2) := by decide +kernel
theorem dX9_traced_97 : decode cX9_traced 97 = .ok (.iinc 5 1, 3) := by decide +kernel
theorem dX9_traced_100 : decode cX9_traced 100 = .ok (.goto (-83), 3) := by decide +kernel
theorem dX9_traced_103 : decode cX9_traced 103 = .ok (.iload 4, 2) := by decide +kernel
theorem dX9_traced_105 : decode cX9_traced 105 = .ok (.ireturn, 1) := by decide +kernel
theorem dX9_count_0 : decode cX9_count 0 = .ok (.iload_n 1, 1) := by decide +kernel
theorem dX9_count_1 : decode cX9_count 1 = .ok (.tableswitch 105 0 7 #[47, 55, 63, 71, 79, 87, 95, 100], 47) := by decide +kernel
theorem dX9_count_48 : decode cX9_count 48 = .ok (.aload_n 0, 1) := by decide +kernel
theorem dX9_count_49 : decode cX9_count 49 = .ok (.getfield 10, 3) := by decide +kernel
theorem dX9_count_52 : decode cX9_count 52 = .ok (.invokevirtual 77, 3) := by decide +kernel
theorem dX9_count_55 : decode cX9_count 55 = .ok (.ireturn, 1) := by decide +kernel
theorem dX9_count_56 : decode cX9_count 56 = .ok (.aload_n 0, 1) := by decide +kernel
theorem dX9_count_57 : decode cX9_count 57 = .ok (.getfield 16, 3) := by decide +kernel
theorem dX9_count_60 : decode cX9_count 60 = .ok (.invokevirtual 77, 3) := by decide +kernel
theorem dX9_count_63 : decode cX9_count 63 = .ok (.ireturn, 1) := by decide +kernel
theorem dX9_count_64 : decode cX9_count 64 = .ok (.aload_n 0, 1) := by decide +kernel
theorem dX9_count_65 : decode cX9_count 65 = .ok (.getfield 19, 3) := by decide +kernel
theorem dX9_count_68 : decode cX9_count 68 = .ok (.invokevirtual 77, 3) := by decide +kernel
theorem dX9_count_71 : decode cX9_count 71 = .ok (.ireturn, 1) := by decide +kernel
theorem dX9_count_72 : decode cX9_count 72 = .ok (.aload_n 0, 1) := by decide +kernel
theorem dX9_count_73 : decode cX9_count 73 = .ok (.getfield 22, 3) := by decide +kernel
theorem dX9_count_76 : decode cX9_count 76 = .ok (.invokevirtual 77, 3) := by decide +kernel
theorem dX9_count_79 : decode cX9_count 79 = .ok (.ireturn, 1) := by decide +kernel
theorem dX9_count_80 : decode cX9_count 80 = .ok (.aload_n 0, 1) := by decide +kernel
theorem dX9_count_81 : decode cX9_count 81 = .ok (.getfield 25, 3) := by decide +kernel
theorem dX9_count_84 : decode cX9_count 84 = .ok (.invokevirtual 77, 3) := by decide +kernel
theorem dX9_count_87 : decode cX9_count 87 = .ok (.ireturn, 1) := by decide +kernel
theorem dX9_count_88 : decode cX9_count 88 = .ok (.aload_n 0, 1) := by decide +kernel
theorem dX9_count_89 : decode cX9_count 89 = .ok (.getfield 28, 3) := by decide +kernel
theorem dX9_count_92 : decode cX9_count 92 = .ok (.invokevirtual 77, 3) := by decide +kernel
theorem dX9_count_95 : decode cX9_count 95 = .ok (.ireturn, 1) := by decide +kernel
theorem dX9_count_96 : decode cX9_count 96 = .ok (.aload_n 0, 1) := by decide +kernel
theorem dX9_count_97 : decode cX9_count 97 = .ok (.getfield 63, 3) := by decide +kernel
theorem dX9_count_100 : decode cX9_count 100 = .ok (.ireturn, 1) := by decide +kernel
theorem dX9_count_101 : decode cX9_count 101 = .ok (.aload_n 0, 1) := by decide +kernel
theorem dX9_count_102 : decode cX9_count 102 = .ok (.invokevirtual 125, 3) := by decide +kernel
theorem dX9_count_105 : decode cX9_count 105 = .ok (.ireturn, 1) := by decide +kernel
theorem dX9_count_106 : decode cX9_count 106 = .ok (.iconst (-1), 1) := by decide +kernel
theorem dX9_count_107 : decode cX9_count 107 = .ok (.ireturn, 1) := by decide +kernel
theorem dX9_trouble_0 : decode cX9_trouble 0 = .ok (.aload_n 0, 1) := by decide +kernel
theorem dX9_trouble_1 : decode cX9_trouble 1 = .ok (.getfield 66, 3) := by decide +kernel
theorem dX9_trouble_4 : decode cX9_trouble 4 = .ok (.ireturn, 1) := by decide +kernel
theorem dX9_refuse_0 : decode cX9_refuse 0 = .ok (.aload_n 0, 1) := by decide +kernel
theorem dX9_refuse_1 : decode cX9_refuse 1 = .ok (.iload_n 1, 1) := by decide +kernel
theorem dX9_refuse_2 : decode cX9_refuse 2 = .ok (.putfield 66, 3) := by decide +kernel
theorem dX9_refuse_5 : decode cX9_refuse 5 = .ok (.iconst (-1), 1) := by decide +kernel
theorem dX9_refuse_6 : decode cX9_refuse 6 = .ok (.ireturn, 1) := by decide +kernel
theorem dX9_accept_0 : decode cX9_accept 0 = .ok (.aload_n 0, 1) := by decide +kernel
theorem dX9_accept_1 : decode cX9_accept 1 = .ok (.iconst 0, 1) := by decide +kernel
theorem dX9_accept_2 : decode cX9_accept 2 = .ok (.putfield 66, 3) := by decide +kernel
theorem dX9_accept_5 : decode cX9_accept 5 = .ok (.iload_n 1, 1) := by decide +kernel
theorem dX9_accept_6 : decode cX9_accept 6 = .ok (.ireturn, 1) := by decide +kernel
theorem dX9_ended_0 : decode cX9_ended 0 = .ok (.aload_n 0, 1) := by decide +kernel
theorem dX9_ended_1 : decode cX9_ended 1 = .ok (.iload_n 1, 1) := by decide +kernel
theorem dX9_ended_2 : decode cX9_ended 2 = .ok (.putfield 66, 3) := by decide +kernel
theorem dX9_ended_5 : decode cX9_ended 5 = .ok (.iload_n 1, 1) := by decide +kernel
theorem dX9_ended_6 : decode cX9_ended 6 = .ok (.ifCond .ne 7, 3) := by decide +kernel
theorem dX9_ended_9 : decode cX9_ended 9 = .ok (.iconst 1, 1) := by decide +kernel
theorem dX9_ended_10 : decode cX9_ended 10 = .ok (.goto 4, 3) := by decide +kernel
theorem dX9_ended_13 : decode cX9_ended 13 = .ok (.iconst 0, 1) := by decide +kernel
theorem dX9_ended_14 : decode cX9_ended 14 = .ok (.ireturn, 1) := by decide +kernel
theorem dX9_isFrom_0 : decode cX9_isFrom 0 = .ok (.iload_n 0, 1) := by decide +kernel
theorem dX9_isFrom_1 : decode cX9_isFrom 1 = .ok (.iload_n 1, 1) := by decide +kernel
theorem dX9_isFrom_2 : decode cX9_isFrom 2 = .ok (.if_icmp .lt 12, 3) := by decide +kernel
theorem dX9_isFrom_5 : decode cX9_isFrom 5 = .ok (.iload_n 0, 1) := by decide +kernel
theorem dX9_isFrom_6 : decode cX9_isFrom 6 = .ok (.iload_n 2, 1) := by decide +kernel
theorem dX9_isFrom_7 : decode cX9_isFrom 7 = .ok (.if_icmp .gt 7, 3) := by decide +kernel
theorem dX9_isFrom_10 : decode cX9_isFrom 10 = .ok (.iconst 1, 1) := by decide +kernel
theorem dX9_isFrom_11 : decode cX9_isFrom 11 = .ok (.goto 4, 3) := by decide +kernel
theorem dX9_isFrom_14 : decode cX9_isFrom 14 = .ok (.iconst 0, 1) := by decide +kernel
theorem dX9_isFrom_15 : decode cX9_isFrom 15 = .ok (.ireturn, 1) := by decide +kernel
theorem dX9_isGrade_0 : decode cX9_isGrade 0 = .ok (.iload_n 0, 1) := by decide +kernel
theorem dX9_isGrade_1 : decode cX9_isGrade 1 = .ok (.iconst 1, 1) := by decide +kernel
theorem dX9_isGrade_2 : decode cX9_isGrade 2 = .ok (.iconst 4, 1) := by decide +kernel
theorem dX9_isGrade_3 : decode cX9_isGrade 3 = .ok (.invokestatic 69, 3) := by decide +kernel
theorem dX9_isGrade_6 : decode cX9_isGrade 6 = .ok (.ireturn, 1) := by decide +kernel
theorem dX9_isFamily_0 : decode cX9_isFamily 0 = .ok (.iload_n 1, 1) := by decide +kernel
theorem dX9_isFamily_1 : decode cX9_isFamily 1 = .ok (.ifCond .lt 18, 3) := by decide +kernel
theorem dX9_isFamily_4 : decode cX9_isFamily 4 = .ok (.iload_n 1, 1) := by decide +kernel
theorem dX9_isFamily_5 : decode cX9_isFamily 5 = .ok (.aload_n 0, 1) := by decide +kernel
theorem dX9_isFamily_6 : decode cX9_isFamily 6 = .ok (.getfield 10, 3) := by decide +kernel
theorem dX9_isFamily_9 : decode cX9_isFamily 9 = .ok (.invokevirtual 77, 3) := by decide +kernel
theorem dX9_isFamily_12 : decode cX9_isFamily 12 = .ok (.if_icmp .ge 7, 3) := by decide +kernel
theorem dX9_isFamily_15 : decode cX9_isFamily 15 = .ok (.iconst 1, 1) := by decide +kernel
theorem dX9_isFamily_16 : decode cX9_isFamily 16 = .ok (.goto 4, 3) := by decide +kernel
theorem dX9_isFamily_19 : decode cX9_isFamily 19 = .ok (.iconst 0, 1) := by decide +kernel
theorem dX9_isFamily_20 : decode cX9_isFamily 20 = .ok (.ireturn, 1) := by decide +kernel
theorem dX9_isGarden_0 : decode cX9_isGarden 0 = .ok (.iload_n 1, 1) := by decide +kernel
theorem dX9_isGarden_1 : decode cX9_isGarden 1 = .ok (.ifCond .lt 18, 3) := by decide +kernel
theorem dX9_isGarden_4 : decode cX9_isGarden 4 = .ok (.iload_n 1, 1) := by decide +kernel
theorem dX9_isGarden_5 : decode cX9_isGarden 5 = .ok (.aload_n 0, 1) := by decide +kernel
theorem dX9_isGarden_6 : decode cX9_isGarden 6 = .ok (.getfield 16, 3) := by decide +kernel
theorem dX9_isGarden_9 : decode cX9_isGarden 9 = .ok (.invokevirtual 77, 3) := by decide +kernel
theorem dX9_isGarden_12 : decode cX9_isGarden 12 = .ok (.if_icmp .ge 7, 3) := by decide +kernel
theorem dX9_isGarden_15 : decode cX9_isGarden 15 = .ok (.iconst 1, 1) := by decide +kernel
theorem dX9_isGarden_16 : decode cX9_isGarden 16 = .ok (.goto 4, 3) := by decide +kernel
theorem dX9_isGarden_19 : decode cX9_isGarden 19 = .ok (.iconst 0, 1) := by decide +kernel
theorem dX9_isGarden_20 : decode cX9_isGarden 20 = .ok (.ireturn, 1) := by decide +kernel
theorem dX9_isStrip_0 : decode cX9_isStrip 0 = .ok (.iload_n 1, 1) := by decide +kernel
theorem dX9_isStrip_1 : decode cX9_isStrip 1 = .ok (.ifCond .lt 18, 3) := by decide +kernel
theorem dX9_isStrip_4 : decode cX9_isStrip 4 = .ok (.iload_n 1, 1) := by decide +kernel
theorem dX9_isStrip_5 : decode cX9_isStrip 5 = .ok (.aload_n 0, 1) := by decide +kernel
theorem dX9_isStrip_6 : decode cX9_isStrip 6 = .ok (.getfield 19, 3) := by decide +kernel
theorem dX9_isStrip_9 : decode cX9_isStrip 9 = .ok (.invokevirtual 77, 3) := by decide +kernel
theorem dX9_isStrip_12 : decode cX9_isStrip 12 = .ok (.if_icmp .ge 7, 3) := by decide +kernel
theorem dX9_isStrip_15 : decode cX9_isStrip 15 = .ok (.iconst 1, 1) := by decide +kernel
theorem dX9_isStrip_16 : decode cX9_isStrip 16 = .ok (.goto 4, 3) := by decide +kernel
theorem dX9_isStrip_19 : decode cX9_isStrip 19 = .ok (.iconst 0, 1) := by decide +kernel
theorem dX9_isStrip_20 : decode cX9_isStrip 20 = .ok (.ireturn, 1) := by decide +kernel
theorem dX9_isQuill_0 : decode cX9_isQuill 0 = .ok (.iload_n 1, 1) := by decide +kernel
theorem dX9_isQuill_1 : decode cX9_isQuill 1 = .ok (.ifCond .lt 18, 3) := by decide +kernel
theorem dX9_isQuill_4 : decode cX9_isQuill 4 = .ok (.iload_n 1, 1) := by decide +kernel
theorem dX9_isQuill_5 : decode cX9_isQuill 5 = .ok (.aload_n 0, 1) := by decide +kernel
theorem dX9_isQuill_6 : decode cX9_isQuill 6 = .ok (.getfield 22, 3) := by decide +kernel
theorem dX9_isQuill_9 : decode cX9_isQuill 9 = .ok (.invokevirtual 77, 3) := by decide +kernel
theorem dX9_isQuill_12 : decode cX9_isQuill 12 = .ok (.if_icmp .ge 7, 3) := by decide +kernel
theorem dX9_isQuill_15 : decode cX9_isQuill 15 = .ok (.iconst 1, 1) := by decide +kernel
theorem dX9_isQuill_16 : decode cX9_isQuill 16 = .ok (.goto 4, 3) := by decide +kernel
theorem dX9_isQuill_19 : decode cX9_isQuill 19 = .ok (.iconst 0, 1) := by decide +kernel
theorem dX9_isQuill_20 : decode cX9_isQuill 20 = .ok (.ireturn, 1) := by decide +kernel
theorem dX9_isBale_0 : decode cX9_isBale 0 = .ok (.iload_n 1, 1) := by decide +kernel
theorem dX9_isBale_1 : decode cX9_isBale 1 = .ok (.ifCond .lt 18, 3) := by decide +kernel
theorem dX9_isBale_4 : decode cX9_isBale 4 = .ok (.iload_n 1, 1) := by decide +kernel
theorem dX9_isBale_5 : decode cX9_isBale 5 = .ok (.aload_n 0, 1) := by decide +kernel
theorem dX9_isBale_6 : decode cX9_isBale 6 = .ok (.getfield 25, 3) := by decide +kernel
theorem dX9_isBale_9 : decode cX9_isBale 9 = .ok (.invokevirtual 77, 3) := by decide +kernel
theorem dX9_isBale_12 : decode cX9_isBale 12 = .ok (.if_icmp .ge 7, 3) := by decide +kernel
theorem dX9_isBale_15 : decode cX9_isBale 15 = .ok (.iconst 1, 1) := by decide +kernel
theorem dX9_isBale_16 : decode cX9_isBale 16 = .ok (.goto 4, 3) := by decide +kernel
theorem dX9_isBale_19 : decode cX9_isBale 19 = .ok (.iconst 0, 1) := by decide +kernel
theorem dX9_isBale_20 : decode cX9_isBale 20 = .ok (.ireturn, 1) := by decide +kernel
theorem dX9_isChest_0 : decode cX9_isChest 0 = .ok (.iload_n 1, 1) := by decide +kernel
theorem dX9_isChest_1 : decode cX9_isChest 1 = .ok (.ifCond .lt 18, 3) := by decide +kernel
theorem dX9_isChest_4 : decode cX9_isChest 4 = .ok (.iload_n 1, 1) := by decide +kernel
theorem dX9_isChest_5 : decode cX9_isChest 5 = .ok (.aload_n 0, 1) := by decide +kernel
theorem dX9_isChest_6 : decode cX9_isChest 6 = .ok (.getfield 28, 3) := by decide +kernel
theorem dX9_isChest_9 : decode cX9_isChest 9 = .ok (.invokevirtual 77, 3) := by decide +kernel
theorem dX9_isChest_12 : decode cX9_isChest 12 = .ok (.if_icmp .ge 7, 3) := by decide +kernel
theorem dX9_isChest_15 : decode cX9_isChest 15 = .ok (.iconst 1, 1) := by decide +kernel
theorem dX9_isChest_16 : decode cX9_isChest 16 = .ok (.goto 4, 3) := by decide +kernel
theorem dX9_isChest_19 : decode cX9_isChest 19 = .ok (.iconst 0, 1) := by decide +kernel
theorem dX9_isChest_20 : decode cX9_isChest 20 = .ok (.ireturn, 1) := by decide +kernel
theorem dX9_thisYear_0 : decode cX9_thisYear 0 = .ok (.aload_n 0, 1) := by decide +kernel
theorem dX9_thisYear_1 : decode cX9_thisYear 1 = .ok (.getfield 63, 3) := by decide +kernel
theorem dX9_thisYear_4 : decode cX9_thisYear 4 = .ok (.bipush 60, 2) := by decide +kernel
theorem dX9_thisYear_6 : decode cX9_thisYear 6 = .ok (.idiv, 1) := by decide +kernel
theorem dX9_thisYear_7 : decode cX9_thisYear 7 = .ok (.ireturn, 1) := by decide +kernel
theorem dX9_beginYear_0 : decode cX9_beginYear 0 = .ok (.iconst 0, 1) := by decide +kernel
theorem dX9_beginYear_1 : decode cX9_beginYear 1 = .ok (.istore_n 1, 1) := by decide +kernel
theorem dX9_beginYear_2 : decode cX9_beginYear 2 = .ok (.iload_n 1, 1) := by decide +kernel
theorem dX9_beginYear_3 : decode cX9_beginYear 3 = .ok (.aload_n 0, 1) := by decide +kernel
theorem dX9_beginYear_4 : decode cX9_beginYear 4 = .ok (.getfield 10, 3) := by decide +kernel
theorem dX9_beginYear_7 : decode cX9_beginYear 7 = .ok (.invokevirtual 77, 3) := by decide +kernel
theorem dX9_beginYear_10 : decode cX9_beginYear 10 = .ok (.if_icmp .ge 23, 3) := by decide +kernel
theorem dX9_beginYear_13 : decode cX9_beginYear 13 = .ok (.aload_n 0, 1) := by decide +kernel
theorem dX9_beginYear_14 : decode cX9_beginYear 14 = .ok (.getfield 10, 3) := by decide +kernel
theorem dX9_beginYear_17 : decode cX9_beginYear 17 = .ok (.iload_n 1, 1) := by decide +kernel
theorem dX9_beginYear_18 : decode cX9_beginYear 18 = .ok (.invokevirtual 113, 3) := by decide +kernel
theorem dX9_beginYear_21 : decode cX9_beginYear 21 = .ok (.checkcast 81, 3) := by decide +kernel
theorem dX9_beginYear_24 : decode cX9_beginYear 24 = .ok (.invokevirtual 281, 3) := by decide +kernel
theorem dX9_beginYear_27 : decode cX9_beginYear 27 = .ok (.iinc 1 1, 3) := by decide +kernel
theorem dX9_beginYear_30 : decode cX9_beginYear 30 = .ok (.goto (-28), 3) := by decide +kernel
theorem dX9_beginYear_33 : decode cX9_beginYear 33 = .ok (.return_, 1) := by decide +kernel
theorem dX9_dayOfDryness_0 : decode cX9_dayOfDryness 0 = .ok (.aload_n 0, 1) := by decide +kernel
theorem dX9_dayOfDryness_1 : decode cX9_dayOfDryness 1 = .ok (.getfield 34, 3) := by decide +kernel
theorem dX9_dayOfDryness_4 : decode cX9_dayOfDryness 4 = .ok (.aload_n 1, 1) := by decide +kernel
theorem dX9_dayOfDryness_5 : decode cX9_dayOfDryness 5 = .ok (.getfield 149, 3) := by decide +kernel
theorem dX9_dayOfDryness_8 : decode cX9_dayOfDryness 8 = .ok (.aload_n 1, 1) := by decide +kernel
theorem dX9_dayOfDryness_9 : decode cX9_dayOfDryness 9 = .ok (.getfield 143, 3) := by decide +kernel
theorem dX9_dayOfDryness_12 : decode cX9_dayOfDryness 12 = .ok (.iconst 2, 1) := by decide +kernel
theorem dX9_dayOfDryness_13 : decode cX9_dayOfDryness 13 = .ok (.iadd, 1) := by decide +kernel
theorem dX9_dayOfDryness_14 : decode cX9_dayOfDryness 14 = .ok (.invokevirtual 282, 3) := by decide +kernel
theorem dX9_dayOfDryness_17 : decode cX9_dayOfDryness 17 = .ok (.ireturn, 1) := by decide +kernel
theorem dX9_isDry_0 : decode cX9_isDry 0 = .ok (.aload_n 0, 1) := by decide +kernel
theorem dX9_isDry_1 : decode cX9_isDry 1 = .ok (.aload_n 1, 1) := by decide +kernel
theorem dX9_isDry_2 : decode cX9_isDry 2 = .ok (.invokevirtual 163, 3) := by decide +kernel
theorem dX9_isDry_5 : decode cX9_isDry 5 = .ok (.istore_n 2, 1) := by decide +kernel
theorem dX9_isDry_6 : decode cX9_isDry 6 = .ok (.iload_n 2, 1) := by decide +kernel
theorem dX9_isDry_7 : decode cX9_isDry 7 = .ok (.bipush (-2), 2) := by decide +kernel
theorem dX9_isDry_9 : decode cX9_isDry 9 = .ok (.if_icmp .eq 15, 3) := by decide +kernel
theorem dX9_isDry_12 : decode cX9_isDry 12 = .ok (.iload_n 2, 1) := by decide +kernel
theorem dX9_isDry_13 : decode cX9_isDry 13 = .ok (.aload_n 0, 1) := by decide +kernel
theorem dX9_isDry_14 : decode cX9_isDry 14 = .ok (.getfield 63, 3) := by decide +kernel
theorem dX9_isDry_17 : decode cX9_isDry 17 = .ok (.if_icmp .gt 7, 3) := by decide +kernel
theorem dX9_isDry_20 : decode cX9_isDry 20 = .ok (.iconst 1, 1) := by decide +kernel
theorem dX9_isDry_21 : decode cX9_isDry 21 = .ok (.goto 4, 3) := by decide +kernel
theorem dX9_isDry_24 : decode cX9_isDry 24 = .ok (.iconst 0, 1) := by decide +kernel
theorem dX9_isDry_25 : decode cX9_isDry 25 = .ok (.ireturn, 1) := by decide +kernel
theorem dX9_mayBeJoined_0 : decode cX9_mayBeJoined 0 = .ok (.aload_n 1, 1) := by decide +kernel
theorem dX9_mayBeJoined_1 : decode cX9_mayBeJoined 1 = .ok (.getfield 134, 3) := by decide +kernel
theorem dX9_mayBeJoined_4 : decode cX9_mayBeJoined 4 = .ok (.iload_n 2, 1) := by decide +kernel
theorem dX9_mayBeJoined_5 : decode cX9_mayBeJoined 5 = .ok (.if_icmp .ne 24, 3) := by decide +kernel
theorem dX9_mayBeJoined_8 : decode cX9_mayBeJoined 8 = .ok (.aload_n 1, 1) := by decide +kernel
theorem dX9_mayBeJoined_9 : decode cX9_mayBeJoined 9 = .ok (.getfield 156, 3) := by decide +kernel
theorem dX9_mayBeJoined_12 : decode cX9_mayBeJoined 12 = .ok (.bipush (-2), 2) := by decide +kernel
theorem dX9_mayBeJoined_14 : decode cX9_mayBeJoined 14 = .ok (.if_icmp .ne 15, 3) := by decide +kernel
theorem dX9_mayBeJoined_17 : decode cX9_mayBeJoined 17 = .ok (.aload_n 0, 1) := by decide +kernel
theorem dX9_mayBeJoined_18 : decode cX9_mayBeJoined 18 = .ok (.aload_n 1, 1) := by decide +kernel
theorem dX9_mayBeJoined_19 : decode cX9_mayBeJoined 19 = .ok (.invokevirtual 152, 3) := by decide +kernel
theorem dX9_mayBeJoined_22 : decode cX9_mayBeJoined 22 = .ok (.ifCond .eq 7, 3) := by decide +kernel
theorem dX9_mayBeJoined_25 : decode cX9_mayBeJoined 25 = .ok (.iconst 1, 1) := by decide +kernel
theorem dX9_mayBeJoined_26 : decode cX9_mayBeJoined 26 = .ok (.goto 4, 3) := by decide +kernel
theorem dX9_mayBeJoined_29 : decode cX9_mayBeJoined 29 = .ok (.iconst 0, 1) := by decide +kernel
theorem dX9_mayBeJoined_30 : decode cX9_mayBeJoined 30 = .ok (.ireturn, 1) := by decide +kernel
theorem dX9_findBest_0 : decode cX9_findBest 0 = .ok (.aload_n 0, 1) := by decide +kernel
theorem dX9_findBest_1 : decode cX9_findBest 1 = .ok (.getfield 41, 3) := by decide +kernel
theorem dX9_findBest_4 : decode cX9_findBest 4 = .ok (.invokevirtual 285, 3) := by decide +kernel
theorem dX9_findBest_7 : decode cX9_findBest 7 = .ok (.iconst 0, 1) := by decide +kernel
theorem dX9_findBest_8 : decode cX9_findBest 8 = .ok (.istore_n 2, 1) := by decide +kernel
theorem dX9_findBest_9 : decode cX9_findBest 9 = .ok (.iload_n 2, 1) := by decide +kernel
theorem dX9_findBest_10 : decode cX9_findBest 10 = .ok (.aload_n 0, 1) := by decide +kernel
theorem dX9_findBest_11 : decode cX9_findBest 11 = .ok (.getfield 19, 3) := by decide +kernel
theorem dX9_findBest_14 : decode cX9_findBest 14 = .ok (.invokevirtual 77, 3) := by decide +kernel
theorem dX9_findBest_17 : decode cX9_findBest 17 = .ok (.if_icmp .ge 56, 3) := by decide +kernel
theorem dX9_findBest_20 : decode cX9_findBest 20 = .ok (.aload_n 0, 1) := by decide +kernel
theorem dX9_findBest_21 : decode cX9_findBest 21 = .ok (.getfield 41, 3) := by decide +kernel
theorem dX9_findBest_24 : decode cX9_findBest 24 = .ok (.invokevirtual 286, 3) := by decide +kernel
theorem dX9_findBest_27 : decode cX9_findBest 27 = .ok (.ifCond .eq 46, 3) := by decide +kernel
theorem dX9_findBest_30 : decode cX9_findBest 30 = .ok (.aload_n 0, 1) := by decide +kernel
theorem dX9_findBest_31 : decode cX9_findBest 31 = .ok (.getfield 19, 3) := by decide +kernel
theorem dX9_findBest_34 : decode cX9_findBest 34 = .ok (.iload_n 2, 1) := by decide +kernel
theorem dX9_findBest_35 : decode cX9_findBest 35 = .ok (.invokevirtual 113, 3) := by decide +kernel
theorem dX9_findBest_38 : decode cX9_findBest 38 = .ok (.checkcast 120, 3) := by decide +kernel
theorem dX9_findBest_41 : decode cX9_findBest 41 = .ok (.astore_n 3, 1) := by decide +kernel
theorem dX9_findBest_42 : decode cX9_findBest 42 = .ok (.aload_n 0, 1) := by decide +kernel
theorem dX9_findBest_43 : decode cX9_findBest 43 = .ok (.aload_n 3, 1) := by decide +kernel
theorem dX9_findBest_44 : decode cX9_findBest 44 = .ok (.iload_n 1, 1) := by decide +kernel
theorem dX9_findBest_45 : decode cX9_findBest 45 = .ok (.invokevirtual 159, 3) := by decide +kernel
theorem dX9_findBest_48 : decode cX9_findBest 48 = .ok (.ifCond .eq 19, 3) := by decide +kernel
theorem dX9_findBest_51 : decode cX9_findBest 51 = .ok (.aload_n 0, 1) := by decide +kernel
theorem dX9_findBest_52 : decode cX9_findBest 52 = .ok (.getfield 41, 3) := by decide +kernel
theorem dX9_findBest_55 : decode cX9_findBest 55 = .ok (.iload_n 2, 1) := by decide +kernel
theorem dX9_findBest_56 : decode cX9_findBest 56 = .ok (.aload_n 3, 1) := by decide +kernel
theorem dX9_findBest_57 : decode cX9_findBest 57 = .ok (.getfield 140, 3) := by decide +kernel
theorem dX9_findBest_60 : decode cX9_findBest 60 = .ok (.aload_n 3, 1) := by decide +kernel
theorem dX9_findBest_61 : decode cX9_findBest 61 = .ok (.getfield 146, 3) := by decide +kernel
theorem dX9_findBest_64 : decode cX9_findBest 64 = .ok (.invokevirtual 290, 3) := by decide +kernel
theorem dX9_findBest_67 : decode cX9_findBest 67 = .ok (.iinc 2 1, 3) := by decide +kernel
theorem dX9_findBest_70 : decode cX9_findBest 70 = .ok (.goto (-61), 3) := by decide +kernel
theorem dX9_findBest_73 : decode cX9_findBest 73 = .ok (.aload_n 0, 1) := by decide +kernel
theorem dX9_findBest_74 : decode cX9_findBest 74 = .ok (.getfield 41, 3) := by decide +kernel
theorem dX9_findBest_77 : decode cX9_findBest 77 = .ok (.aload_n 0, 1) := by decide +kernel
theorem dX9_findBest_78 : decode cX9_findBest 78 = .ok (.getfield 56, 3) := by decide +kernel
theorem dX9_findBest_81 : decode cX9_findBest 81 = .ok (.aload_n 0, 1) := by decide +kernel
theorem dX9_findBest_82 : decode cX9_findBest 82 = .ok (.getfield 60, 3) := by decide +kernel
theorem dX9_findBest_85 : decode cX9_findBest 85 = .ok (.invokevirtual 293, 3) := by decide +kernel
theorem dX9_findBest_88 : decode cX9_findBest 88 = .ok (.ireturn, 1) := by decide +kernel
theorem dX9_putInto_0 : decode cX9_putInto 0 = .ok (.aload_n 0, 1) := by decide +kernel
theorem dX9_putInto_1 : decode cX9_putInto 1 = .ok (.iload_n 2, 1) := by decide +kernel
theorem dX9_putInto_2 : decode cX9_putInto 2 = .ok (.invokevirtual 131, 3) := by decide +kernel
theorem dX9_putInto_5 : decode cX9_putInto 5 = .ok (.ifCond .eq 39, 3) := by decide +kernel
theorem dX9_putInto_8 : decode cX9_putInto 8 = .ok (.aload_n 0, 1) := by decide +kernel
theorem dX9_putInto_9 : decode cX9_putInto 9 = .ok (.getfield 19, 3) := by decide +kernel
theorem dX9_putInto_12 : decode cX9_putInto 12 = .ok (.iload_n 2, 1) := by decide +kernel
theorem dX9_putInto_13 : decode cX9_putInto 13 = .ok (.invokevirtual 113, 3) := by decide +kernel
theorem dX9_putInto_16 : decode cX9_putInto 16 = .ok (.checkcast 120, 3) := by decide +kernel
theorem dX9_putInto_19 : decode cX9_putInto 19 = .ok (.astore_n 3, 1) := by decide +kernel
theorem dX9_putInto_20 : decode cX9_putInto 20 = .ok (.aload_n 3, 1) := by decide +kernel
theorem dX9_putInto_21 : decode cX9_putInto 21 = .ok (.aload_n 0, 1) := by decide +kernel
theorem dX9_putInto_22 : decode cX9_putInto 22 = .ok (.getfield 22, 3) := by decide +kernel
theorem dX9_putInto_25 : decode cX9_putInto 25 = .ok (.invokevirtual 77, 3) := by decide +kernel
theorem dX9_putInto_28 : decode cX9_putInto 28 = .ok (.putfield 156, 3) := by decide +kernel
theorem dX9_putInto_31 : decode cX9_putInto 31 = .ok (.aload_n 1, 1) := by decide +kernel
theorem dX9_putInto_32 : decode cX9_putInto 32 = .ok (.iload_n 2, 1) := by decide +kernel
theorem dX9_putInto_33 : decode cX9_putInto 33 = .ok (.aload_n 3, 1) := by decide +kernel
theorem dX9_putInto_34 : decode cX9_putInto 34 = .ok (.getfield 143, 3) := by decide +kernel
theorem dX9_putInto_37 : decode cX9_putInto 37 = .ok (.aload_n 3, 1) := by decide +kernel
theorem dX9_putInto_38 : decode cX9_putInto 38 = .ok (.getfield 146, 3) := by decide +kernel
theorem dX9_putInto_41 : decode cX9_putInto 41 = .ok (.invokevirtual 296, 3) := by decide +kernel
theorem dX9_putInto_44 : decode cX9_putInto 44 = .ok (.return_, 1) := by decide +kernel
theorem dX9_stripsOf_0 : decode cX9_stripsOf 0 = .ok (.iconst 0, 1) := by decide +kernel
theorem dX9_stripsOf_1 : decode cX9_stripsOf 1 = .ok (.istore_n 2, 1) := by decide +kernel
theorem dX9_stripsOf_2 : decode cX9_stripsOf 2 = .ok (.iconst 0, 1) := by decide +kernel
theorem dX9_stripsOf_3 : decode cX9_stripsOf 3 = .ok (.istore_n 3, 1) := by decide +kernel
theorem dX9_stripsOf_4 : decode cX9_stripsOf 4 = .ok (.iload_n 3, 1) := by decide +kernel
theorem dX9_stripsOf_5 : decode cX9_stripsOf 5 = .ok (.aload_n 0, 1) := by decide +kernel
theorem dX9_stripsOf_6 : decode cX9_stripsOf 6 = .ok (.getfield 19, 3) := by decide +kernel
theorem dX9_stripsOf_9 : decode cX9_stripsOf 9 = .ok (.invokevirtual 77, 3) := by decide +kernel
theorem dX9_stripsOf_12 : decode cX9_stripsOf 12 = .ok (.if_icmp .ge 30, 3) := by decide +kernel
theorem dX9_stripsOf_15 : decode cX9_stripsOf 15 = .ok (.aload_n 0, 1) := by decide +kernel
theorem dX9_stripsOf_16 : decode cX9_stripsOf 16 = .ok (.getfield 19, 3) := by decide +kernel
theorem dX9_stripsOf_19 : decode cX9_stripsOf 19 = .ok (.iload_n 3, 1) := by decide +kernel
theorem dX9_stripsOf_20 : decode cX9_stripsOf 20 = .ok (.invokevirtual 113, 3) := by decide +kernel
theorem dX9_stripsOf_23 : decode cX9_stripsOf 23 = .ok (.checkcast 120, 3) := by decide +kernel
theorem dX9_stripsOf_26 : decode cX9_stripsOf 26 = .ok (.getfield 134, 3) := by decide +kernel
theorem dX9_stripsOf_29 : decode cX9_stripsOf 29 = .ok (.iload_n 1, 1) := by decide +kernel
theorem dX9_stripsOf_30 : decode cX9_stripsOf 30 = .ok (.if_icmp .ne 6, 3) := by decide +kernel
theorem dX9_stripsOf_33 : decode cX9_stripsOf 33 = .ok (.iinc 2 1, 3) := by decide +kernel
theorem dX9_stripsOf_36 : decode cX9_stripsOf 36 = .ok (.iinc 3 1, 3) := by decide +kernel
theorem dX9_stripsOf_39 : decode cX9_stripsOf 39 = .ok (.goto (-35), 3) := by decide +kernel
theorem dX9_stripsOf_42 : decode cX9_stripsOf 42 = .ok (.iload_n 2, 1) := by decide +kernel
theorem dX9_stripsOf_43 : decode cX9_stripsOf 43 = .ok (.ireturn, 1) := by decide +kernel
theorem dX9_quillsInNoBale_0 : decode cX9_quillsInNoBale 0 = .ok (.iconst 0, 1) := by decide +kernel
theorem dX9_quillsInNoBale_1 : decode cX9_quillsInNoBale 1 = .ok (.istore_n 2, 1) := by decide +kernel
theorem dX9_quillsInNoBale_2 : decode cX9_quillsInNoBale 2 = .ok (.iconst 1, 1) := by decide +kernel
theorem dX9_quillsInNoBale_3 : decode cX9_quillsInNoBale 3 = .ok (.istore_n 3, 1) := by decide +kernel
theorem dX9_quillsInNoBale_4 : decode cX9_quillsInNoBale 4 = .ok (.iload_n 3, 1) := by decide +kernel
theorem dX9_quillsInNoBale_5 : decode cX9_quillsInNoBale 5 = .ok (.iconst 4, 1) := by decide +kernel
theorem dX9_quillsInNoBale_6 : decode cX9_quillsInNoBale 6 = .ok (.if_icmp .gt 18, 3) := by decide +kernel
theorem dX9_quillsInNoBale_9 : decode cX9_quillsInNoBale 9 = .ok (.iload_n 2, 1) := by decide +kernel
theorem dX9_quillsInNoBale_10 : decode cX9_quillsInNoBale 10 = .ok (.aload_n 0, 1) := by decide +kernel
theorem dX9_quillsInNoBale_11 : decode cX9_quillsInNoBale 11 = .ok (.iload_n 1, 1) := by decide +kernel
theorem dX9_quillsInNoBale_12 : decode cX9_quillsInNoBale 12 = .ok (.iload_n 3, 1) := by decide +kernel
theorem dX9_quillsInNoBale_13 : decode cX9_quillsInNoBale 13 = .ok (.invokevirtual 215, 3) := by decide +kernel
theorem dX9_quillsInNoBale_16 : decode cX9_quillsInNoBale 16 = .ok (.iadd, 1) := by decide +kernel
theorem dX9_quillsInNoBale_17 : decode cX9_quillsInNoBale 17 = .ok (.istore_n 2, 1) := by decide +kernel
theorem dX9_quillsInNoBale_18 : decode cX9_quillsInNoBale 18 = .ok (.iinc 3 1, 3) := by decide +kernel
theorem dX9_quillsInNoBale_21 : decode cX9_quillsInNoBale 21 = .ok (.goto (-17), 3) := by decide +kernel
theorem dX9_quillsInNoBale_24 : decode cX9_quillsInNoBale 24 = .ok (.iload_n 2, 1) := by decide +kernel
theorem dX9_quillsInNoBale_25 : decode cX9_quillsInNoBale 25 = .ok (.ireturn, 1) := by decide +kernel
theorem dX9_looseOf_0 : decode cX9_looseOf 0 = .ok (.iconst 0, 1) := by decide +kernel
theorem dX9_looseOf_1 : decode cX9_looseOf 1 = .ok (.istore_n 3, 1) := by decide +kernel
theorem dX9_looseOf_2 : decode cX9_looseOf 2 = .ok (.iconst 0, 1) := by decide +kernel
theorem dX9_looseOf_3 : decode cX9_looseOf 3 = .ok (.istore 4, 2) := by decide +kernel
theorem dX9_looseOf_5 : decode cX9_looseOf 5 = .ok (.iload 4, 2) := by decide +kernel
theorem dX9_looseOf_7 : decode cX9_looseOf 7 = .ok (.aload_n 0, 1) := by decide +kernel
theorem dX9_looseOf_8 : decode cX9_looseOf 8 = .ok (.getfield 22, 3) := by decide +kernel
theorem dX9_looseOf_11 : decode cX9_looseOf 11 = .ok (.invokevirtual 77, 3) := by decide +kernel
theorem dX9_looseOf_14 : decode cX9_looseOf 14 = .ok (.if_icmp .ge 32, 3) := by decide +kernel
theorem dX9_looseOf_17 : decode cX9_looseOf 17 = .ok (.aload_n 0, 1) := by decide +kernel
theorem dX9_looseOf_18 : decode cX9_looseOf 18 = .ok (.getfield 22, 3) := by decide +kernel
theorem dX9_looseOf_21 : decode cX9_looseOf 21 = .ok (.iload 4, 2) := by decide +kernel
theorem dX9_looseOf_23 : decode cX9_looseOf 23 = .ok (.invokevirtual 113, 3) := by decide +kernel
theorem dX9_looseOf_26 : decode cX9_looseOf 26 = .ok (.checkcast 170, 3) := by decide +kernel
theorem dX9_looseOf_29 : decode cX9_looseOf 29 = .ok (.iload_n 1, 1) := by decide +kernel
theorem dX9_looseOf_30 : decode cX9_looseOf 30 = .ok (.iload_n 2, 1) := by decide +kernel
theorem dX9_looseOf_31 : decode cX9_looseOf 31 = .ok (.invokevirtual 297, 3) := by decide +kernel
theorem dX9_looseOf_34 : decode cX9_looseOf 34 = .ok (.ifCond .eq 6, 3) := by decide +kernel
theorem dX9_looseOf_37 : decode cX9_looseOf 37 = .ok (.iinc 3 1, 3) := by decide +kernel
theorem dX9_looseOf_40 : decode cX9_looseOf 40 = .ok (.iinc 4 1, 3) := by decide +kernel
theorem dX9_looseOf_43 : decode cX9_looseOf 43 = .ok (.goto (-38), 3) := by decide +kernel
theorem dX9_looseOf_46 : decode cX9_looseOf 46 = .ok (.iload_n 3, 1) := by decide +kernel
theorem dX9_looseOf_47 : decode cX9_looseOf 47 = .ok (.ireturn, 1) := by decide +kernel
theorem dX9_bindQuills_0 : decode cX9_bindQuills 0 = .ok (.iconst 0, 1) := by decide +kernel
theorem dX9_bindQuills_1 : decode cX9_bindQuills 1 = .ok (.istore 4, 2) := by decide +kernel
theorem dX9_bindQuills_3 : decode cX9_bindQuills 3 = .ok (.iconst 0, 1) := by decide +kernel
theorem dX9_bindQuills_4 : decode cX9_bindQuills 4 = .ok (.istore 5, 2) := by decide +kernel
theorem dX9_bindQuills_6 : decode cX9_bindQuills 6 = .ok (.iload 5, 2) := by decide +kernel
theorem dX9_bindQuills_8 : decode cX9_bindQuills 8 = .ok (.aload_n 0, 1) := by decide +kernel
theorem dX9_bindQuills_9 : decode cX9_bindQuills 9 = .ok (.getfield 22, 3) := by decide +kernel
theorem dX9_bindQuills_12 : decode cX9_bindQuills 12 = .ok (.invokevirtual 77, 3) := by decide +kernel
theorem dX9_bindQuills_15 : decode cX9_bindQuills 15 = .ok (.if_icmp .ge 48, 3) := by decide +kernel
theorem dX9_bindQuills_18 : decode cX9_bindQuills 18 = .ok (.iload 4, 2) := by decide +kernel
theorem dX9_bindQuills_20 : decode cX9_bindQuills 20 = .ok (.iconst 5, 1) := by decide +kernel
theorem dX9_bindQuills_21 : decode cX9_bindQuills 21 = .ok (.if_icmp .ge 42, 3) := by decide +kernel
theorem dX9_bindQuills_24 : decode cX9_bindQuills 24 = .ok (.aload_n 0, 1) := by decide +kernel
theorem dX9_bindQuills_25 : decode cX9_bindQuills 25 = .ok (.getfield 22, 3) := by decide +kernel
theorem dX9_bindQuills_28 : decode cX9_bindQuills 28 = .ok (.iload 5, 2) := by decide +kernel
theorem dX9_bindQuills_30 : decode cX9_bindQuills 30 = .ok (.invokevirtual 113, 3) := by decide +kernel
theorem dX9_bindQuills_33 : decode cX9_bindQuills 33 = .ok (.checkcast 170, 3) := by decide +kernel
theorem dX9_bindQuills_36 : decode cX9_bindQuills 36 = .ok (.astore 6, 2) := by decide +kernel
theorem dX9_bindQuills_38 : decode cX9_bindQuills 38 = .ok (.aload 6, 2) := by decide +kernel
theorem dX9_bindQuills_40 : decode cX9_bindQuills 40 = .ok (.iload_n 1, 1) := by decide +kernel
theorem dX9_bindQuills_41 : decode cX9_bindQuills 41 = .ok (.iload_n 2, 1) := by decide +kernel
theorem dX9_bindQuills_42 : decode cX9_bindQuills 42 = .ok (.invokevirtual 297, 3) := by decide +kernel
theorem dX9_bindQuills_45 : decode cX9_bindQuills 45 = .ok (.ifCond .eq 12, 3) := by decide +kernel
theorem dX9_bindQuills_48 : decode cX9_bindQuills 48 = .ok (.aload 6, 2) := by decide +kernel
theorem dX9_bindQuills_50 : decode cX9_bindQuills 50 = .ok (.iload_n 3, 1) := by decide +kernel
theorem dX9_bindQuills_51 : decode cX9_bindQuills 51 = .ok (.putfield 201, 3) := by decide +kernel
theorem dX9_bindQuills_54 : decode cX9_bindQuills 54 = .ok (.iinc 4 1, 3) := by decide +kernel
theorem dX9_bindQuills_57 : decode cX9_bindQuills 57 = .ok (.iinc 5 1, 3) := by decide +kernel
theorem dX9_bindQuills_60 : decode cX9_bindQuills 60 = .ok (.goto (-54), 3) := by decide +kernel
theorem dX9_bindQuills_63 : decode cX9_bindQuills 63 = .ok (.return_, 1) := by decide +kernel
theorem dX9_reckon_0 : decode cX9_reckon 0 = .ok (.aload_n 0, 1) := by decide +kernel
theorem dX9_reckon_1 : decode cX9_reckon 1 = .ok (.iload_n 1, 1) := by decide +kernel
theorem dX9_reckon_2 : decode cX9_reckon 2 = .ok (.invokevirtual 93, 3) := by decide +kernel
theorem dX9_reckon_5 : decode cX9_reckon 5 = .ok (.ifCond .eq 24, 3) := by decide +kernel
theorem dX9_reckon_8 : decode cX9_reckon 8 = .ok (.aload_n 0, 1) := by decide +kernel
theorem dX9_reckon_9 : decode cX9_reckon 9 = .ok (.getfield 10, 3) := by decide +kernel
theorem dX9_reckon_12 : decode cX9_reckon 12 = .ok (.iload_n 1, 1) := by decide +kernel
theorem dX9_reckon_13 : decode cX9_reckon 13 = .ok (.invokevirtual 113, 3) := by decide +kernel
theorem dX9_reckon_16 : decode cX9_reckon 16 = .ok (.checkcast 81, 3) := by decide +kernel
theorem dX9_reckon_19 : decode cX9_reckon 19 = .ok (.invokevirtual 301, 3) := by decide +kernel
theorem dX9_reckon_22 : decode cX9_reckon 22 = .ok (.ifCond .eq 7, 3) := by decide +kernel
theorem dX9_reckon_25 : decode cX9_reckon 25 = .ok (.iconst 1, 1) := by decide +kernel
theorem dX9_reckon_26 : decode cX9_reckon 26 = .ok (.goto 4, 3) := by decide +kernel
theorem dX9_reckon_29 : decode cX9_reckon 29 = .ok (.iconst 0, 1) := by decide +kernel
theorem dX9_reckon_30 : decode cX9_reckon 30 = .ok (.istore 4, 2) := by decide +kernel
theorem dX9_reckon_32 : decode cX9_reckon 32 = .ok (.iload 4, 2) := by decide +kernel
theorem dX9_reckon_34 : decode cX9_reckon 34 = .ok (.ifCond .ne 10, 3) := by decide +kernel
theorem dX9_reckon_37 : decode cX9_reckon 37 = .ok (.iload_n 2, 1) := by decide +kernel
theorem dX9_reckon_38 : decode cX9_reckon 38 = .ok (.invokestatic 103, 3) := by decide +kernel
theorem dX9_reckon_41 : decode cX9_reckon 41 = .ok (.ifCond .ne 7, 3) := by decide +kernel
theorem dX9_reckon_44 : decode cX9_reckon 44 = .ok (.iconst 0, 1) := by decide +kernel
theorem dX9_reckon_45 : decode cX9_reckon 45 = .ok (.goto 9, 3) := by decide +kernel
theorem dX9_reckon_48 : decode cX9_reckon 48 = .ok (.aload_n 0, 1) := by decide +kernel
theorem dX9_reckon_49 : decode cX9_reckon 49 = .ok (.getfield 52, 3) := by decide +kernel
theorem dX9_reckon_52 : decode cX9_reckon 52 = .ok (.iload_n 2, 1) := by decide +kernel
theorem dX9_reckon_53 : decode cX9_reckon 53 = .ok (.iaload, 1) := by decide +kernel
theorem dX9_reckon_54 : decode cX9_reckon 54 = .ok (.istore 5, 2) := by decide +kernel
theorem dX9_reckon_56 : decode cX9_reckon 56 = .ok (.aload_n 0, 1) := by decide +kernel
theorem dX9_reckon_57 : decode cX9_reckon 57 = .ok (.iload_n 1, 1) := by decide +kernel
theorem dX9_reckon_58 : decode cX9_reckon 58 = .ok (.invokevirtual 93, 3) := by decide +kernel
theorem dX9_reckon_61 : decode cX9_reckon 61 = .ok (.ifCond .eq 24, 3) := by decide +kernel
theorem dX9_reckon_64 : decode cX9_reckon 64 = .ok (.aload_n 0, 1) := by decide +kernel
theorem dX9_reckon_65 : decode cX9_reckon 65 = .ok (.getfield 10, 3) := by decide +kernel
theorem dX9_reckon_68 : decode cX9_reckon 68 = .ok (.iload_n 1, 1) := by decide +kernel
theorem dX9_reckon_69 : decode cX9_reckon 69 = .ok (.invokevirtual 113, 3) := by decide +kernel
theorem dX9_reckon_72 : decode cX9_reckon 72 = .ok (.checkcast 81, 3) := by decide +kernel
theorem dX9_reckon_75 : decode cX9_reckon 75 = .ok (.dup, 1) := by decide +kernel
theorem dX9_reckon_76 : decode cX9_reckon 76 = .ok (.getfield 259, 3) := by decide +kernel
theorem dX9_reckon_79 : decode cX9_reckon 79 = .ok (.iload 5, 2) := by decide +kernel
theorem dX9_reckon_81 : decode cX9_reckon 81 = .ok (.iadd, 1) := by decide +kernel
theorem dX9_reckon_82 : decode cX9_reckon 82 = .ok (.putfield 259, 3) := by decide +kernel
theorem dX9_reckon_85 : decode cX9_reckon 85 = .ok (.new 234, 3) := by decide +kernel
theorem dX9_reckon_88 : decode cX9_reckon 88 = .ok (.dup, 1) := by decide +kernel
theorem dX9_reckon_89 : decode cX9_reckon 89 = .ok (.iload_n 1, 1) := by decide +kernel
theorem dX9_reckon_90 : decode cX9_reckon 90 = .ok (.iload_n 2, 1) := by decide +kernel
theorem dX9_reckon_91 : decode cX9_reckon 91 = .ok (.aload_n 0, 1) := by decide +kernel
theorem dX9_reckon_92 : decode cX9_reckon 92 = .ok (.getfield 63, 3) := by decide +kernel
theorem dX9_reckon_95 : decode cX9_reckon 95 = .ok (.iload_n 3, 1) := by decide +kernel
theorem dX9_reckon_96 : decode cX9_reckon 96 = .ok (.iload 4, 2) := by decide +kernel
theorem dX9_reckon_98 : decode cX9_reckon 98 = .ok (.iload 5, 2) := by decide +kernel
theorem dX9_reckon_100 : decode cX9_reckon 100 = .ok (.invokespecial 304, 3) := by decide +kernel
theorem dX9_reckon_103 : decode cX9_reckon 103 = .ok (.areturn, 1) := by decide +kernel
theorem dX9_chestFor_0 : decode cX9_chestFor 0 = .ok (.iconst 0, 1) := by decide +kernel
theorem dX9_chestFor_1 : decode cX9_chestFor 1 = .ok (.istore_n 2, 1) := by decide +kernel
theorem dX9_chestFor_2 : decode cX9_chestFor 2 = .ok (.iload_n 2, 1) := by decide +kernel
theorem dX9_chestFor_3 : decode cX9_chestFor 3 = .ok (.aload_n 0, 1) := by decide +kernel
theorem dX9_chestFor_4 : decode cX9_chestFor 4 = .ok (.getfield 28, 3) := by decide +kernel
theorem dX9_chestFor_7 : decode cX9_chestFor 7 = .ok (.invokevirtual 77, 3) := by decide +kernel
theorem dX9_chestFor_10 : decode cX9_chestFor 10 = .ok (.if_icmp .ge 29, 3) := by decide +kernel
theorem dX9_chestFor_13 : decode cX9_chestFor 13 = .ok (.aload_n 0, 1) := by decide +kernel
theorem dX9_chestFor_14 : decode cX9_chestFor 14 = .ok (.getfield 28, 3) := by decide +kernel
theorem dX9_chestFor_17 : decode cX9_chestFor 17 = .ok (.iload_n 2, 1) := by decide +kernel
theorem dX9_chestFor_18 : decode cX9_chestFor 18 = .ok (.invokevirtual 113, 3) := by decide +kernel
theorem dX9_chestFor_21 : decode cX9_chestFor 21 = .ok (.checkcast 269, 3) := by decide +kernel
theorem dX9_chestFor_24 : decode cX9_chestFor 24 = .ok (.iload_n 1, 1) := by decide +kernel
theorem dX9_chestFor_25 : decode cX9_chestFor 25 = .ok (.invokevirtual 307, 3) := by decide +kernel
theorem dX9_chestFor_28 : decode cX9_chestFor 28 = .ok (.ifCond .eq 5, 3) := by decide +kernel
theorem dX9_chestFor_31 : decode cX9_chestFor 31 = .ok (.iload_n 2, 1) := by decide +kernel
theorem dX9_chestFor_32 : decode cX9_chestFor 32 = .ok (.ireturn, 1) := by decide +kernel
theorem dX9_chestFor_33 : decode cX9_chestFor 33 = .ok (.iinc 2 1, 3) := by decide +kernel
theorem dX9_chestFor_36 : decode cX9_chestFor 36 = .ok (.goto (-34), 3) := by decide +kernel
theorem dX9_chestFor_39 : decode cX9_chestFor 39 = .ok (.aload_n 0, 1) := by decide +kernel
theorem dX9_chestFor_40 : decode cX9_chestFor 40 = .ok (.getfield 28, 3) := by decide +kernel
theorem dX9_chestFor_43 : decode cX9_chestFor 43 = .ok (.invokevirtual 77, 3) := by decide +kernel
theorem dX9_chestFor_46 : decode cX9_chestFor 46 = .ok (.ireturn, 1) := by decide +kernel
theorem dX9_putInChest_0 : decode cX9_putInChest 0 = .ok (.aload_n 0, 1) := by decide +kernel
theorem dX9_putInChest_1 : decode cX9_putInChest 1 = .ok (.iload_n 1, 1) := by decide +kernel
theorem dX9_putInChest_2 : decode cX9_putInChest 2 = .ok (.invokevirtual 266, 3) := by decide +kernel
theorem dX9_putInChest_5 : decode cX9_putInChest 5 = .ok (.ifCond .eq 26, 3) := by decide +kernel
theorem dX9_putInChest_8 : decode cX9_putInChest 8 = .ok (.aload_n 0, 1) := by decide +kernel
theorem dX9_putInChest_9 : decode cX9_putInChest 9 = .ok (.getfield 28, 3) := by decide +kernel
theorem dX9_putInChest_12 : decode cX9_putInChest 12 = .ok (.iload_n 1, 1) := by decide +kernel
theorem dX9_putInChest_13 : decode cX9_putInChest 13 = .ok (.invokevirtual 113, 3) := by decide +kernel
theorem dX9_putInChest_16 : decode cX9_putInChest 16 = .ok (.checkcast 269, 3) := by decide +kernel
theorem dX9_putInChest_19 : decode cX9_putInChest 19 = .ok (.dup, 1) := by decide +kernel
theorem dX9_putInChest_20 : decode cX9_putInChest 20 = .ok (.getfield 272, 3) := by decide +kernel
theorem dX9_putInChest_23 : decode cX9_putInChest 23 = .ok (.iconst 1, 1) := by decide +kernel
theorem dX9_putInChest_24 : decode cX9_putInChest 24 = .ok (.iadd, 1) := by decide +kernel
theorem dX9_putInChest_25 : decode cX9_putInChest 25 = .ok (.putfield 272, 3) := by decide +kernel
theorem dX9_putInChest_28 : decode cX9_putInChest 28 = .ok (.goto 20, 3) := by decide +kernel
theorem dX9_putInChest_31 : decode cX9_putInChest 31 = .ok (.aload_n 0, 1) := by decide +kernel
theorem dX9_putInChest_32 : decode cX9_putInChest 32 = .ok (.getfield 28, 3) := by decide +kernel
theorem dX9_putInChest_35 : decode cX9_putInChest 35 = .ok (.new 269, 3) := by decide +kernel
theorem dX9_putInChest_38 : decode cX9_putInChest 38 = .ok (.dup, 1) := by decide +kernel
theorem dX9_putInChest_39 : decode cX9_putInChest 39 = .ok (.iload_n 2, 1) := by decide +kernel
theorem dX9_putInChest_40 : decode cX9_putInChest 40 = .ok (.iload_n 3, 1) := by decide +kernel
theorem dX9_putInChest_41 : decode cX9_putInChest 41 = .ok (.invokespecial 308, 3) := by decide +kernel
theorem dX9_putInChest_44 : decode cX9_putInChest 44 = .ok (.invokevirtual 86, 3) := by decide +kernel
theorem dX9_putInChest_47 : decode cX9_putInChest 47 = .ok (.pop, 1) := by decide +kernel
theorem dX9_putInChest_48 : decode cX9_putInChest 48 = .ok (.return_, 1) := by decide +kernel
theorem dX9_chestOf_0 : decode cX9_chestOf 0 = .ok (.aload_n 0, 1) := by decide +kernel
theorem dX9_chestOf_1 : decode cX9_chestOf 1 = .ok (.aload_n 1, 1) := by decide +kernel
theorem dX9_chestOf_2 : decode cX9_chestOf 2 = .ok (.getfield 156, 3) := by decide +kernel
theorem dX9_chestOf_5 : decode cX9_chestOf 5 = .ok (.invokevirtual 192, 3) := by decide +kernel
theorem dX9_chestOf_8 : decode cX9_chestOf 8 = .ok (.ifCond .ne 5, 3) := by decide +kernel
theorem dX9_chestOf_11 : decode cX9_chestOf 11 = .ok (.iconst (-1), 1) := by decide +kernel
theorem dX9_chestOf_12 : decode cX9_chestOf 12 = .ok (.ireturn, 1) := by decide +kernel
theorem dX9_chestOf_13 : decode cX9_chestOf 13 = .ok (.aload_n 0, 1) := by decide +kernel
theorem dX9_chestOf_14 : decode cX9_chestOf 14 = .ok (.getfield 22, 3) := by decide +kernel
theorem dX9_chestOf_17 : decode cX9_chestOf 17 = .ok (.aload_n 1, 1) := by decide +kernel
theorem dX9_chestOf_18 : decode cX9_chestOf 18 = .ok (.getfield 156, 3) := by decide +kernel
theorem dX9_chestOf_21 : decode cX9_chestOf 21 = .ok (.invokevirtual 113, 3) := by decide +kernel
theorem dX9_chestOf_24 : decode cX9_chestOf 24 = .ok (.checkcast 170, 3) := by decide +kernel
theorem dX9_chestOf_27 : decode cX9_chestOf 27 = .ok (.getfield 201, 3) := by decide +kernel
theorem dX9_chestOf_30 : decode cX9_chestOf 30 = .ok (.istore_n 2, 1) := by decide +kernel
theorem dX9_chestOf_31 : decode cX9_chestOf 31 = .ok (.aload_n 0, 1) := by decide +kernel
theorem dX9_chestOf_32 : decode cX9_chestOf 32 = .ok (.iload_n 2, 1) := by decide +kernel
theorem dX9_chestOf_33 : decode cX9_chestOf 33 = .ok (.invokevirtual 231, 3) := by decide +kernel
theorem dX9_chestOf_36 : decode cX9_chestOf 36 = .ok (.ifCond .eq 20, 3) := by decide +kernel
theorem dX9_chestOf_39 : decode cX9_chestOf 39 = .ok (.aload_n 0, 1) := by decide +kernel
theorem dX9_chestOf_40 : decode cX9_chestOf 40 = .ok (.getfield 25, 3) := by decide +kernel
theorem dX9_chestOf_43 : decode cX9_chestOf 43 = .ok (.iload_n 2, 1) := by decide +kernel
theorem dX9_chestOf_44 : decode cX9_chestOf 44 = .ok (.invokevirtual 113, 3) := by decide +kernel
theorem dX9_chestOf_47 : decode cX9_chestOf 47 = .ok (.checkcast 234, 3) := by decide +kernel
theorem dX9_chestOf_50 : decode cX9_chestOf 50 = .ok (.getfield 240, 3) := by decide +kernel
theorem dX9_chestOf_53 : decode cX9_chestOf 53 = .ok (.goto 4, 3) := by decide +kernel
theorem dX9_chestOf_56 : decode cX9_chestOf 56 = .ok (.iconst (-1), 1) := by decide +kernel
theorem dX9_chestOf_57 : decode cX9_chestOf 57 = .ok (.ireturn, 1) := by decide +kernel
theorem dJ6_bitCount_0f7a4_0 : decode cJ6_bitCount_0f7a4 0 = .ok (.iload_n 0, 1) := by decide +kernel
theorem dJ6_bitCount_0f7a4_1 : decode cJ6_bitCount_0f7a4 1 = .ok (.iload_n 0, 1) := by decide +kernel
theorem dJ6_bitCount_0f7a4_2 : decode cJ6_bitCount_0f7a4 2 = .ok (.iconst 1, 1) := by decide +kernel
theorem dJ6_bitCount_0f7a4_3 : decode cJ6_bitCount_0f7a4 3 = .ok (.iushr, 1) := by decide +kernel
theorem dJ6_bitCount_0f7a4_4 : decode cJ6_bitCount_0f7a4 4 = .ok (.ldc_w 265, 3) := by decide +kernel
theorem dJ6_bitCount_0f7a4_7 : decode cJ6_bitCount_0f7a4 7 = .ok (.iand, 1) := by decide +kernel
theorem dJ6_bitCount_0f7a4_8 : decode cJ6_bitCount_0f7a4 8 = .ok (.isub, 1) := by decide +kernel
theorem dJ6_bitCount_0f7a4_9 : decode cJ6_bitCount_0f7a4 9 = .ok (.istore_n 0, 1) := by decide +kernel
theorem dJ6_bitCount_0f7a4_10 : decode cJ6_bitCount_0f7a4 10 = .ok (.iload_n 0, 1) := by decide +kernel
theorem dJ6_bitCount_0f7a4_11 : decode cJ6_bitCount_0f7a4 11 = .ok (.ldc_w 266, 3) := by decide +kernel
theorem dJ6_bitCount_0f7a4_14 : decode cJ6_bitCount_0f7a4 14 = .ok (.iand, 1) := by decide +kernel
theorem dJ6_bitCount_0f7a4_15 : decode cJ6_bitCount_0f7a4 15 = .ok (.iload_n 0, 1) := by decide +kernel
theorem dJ6_bitCount_0f7a4_16 : decode cJ6_bitCount_0f7a4 16 = .ok (.iconst 2, 1) := by decide +kernel
theorem dJ6_bitCount_0f7a4_17 : decode cJ6_bitCount_0f7a4 17 = .ok (.iushr, 1) := by decide +kernel
theorem dJ6_bitCount_0f7a4_18 : decode cJ6_bitCount_0f7a4 18 = .ok (.ldc_w 266, 3) := by decide +kernel
theorem dJ6_bitCount_0f7a4_21 : decode cJ6_bitCount_0f7a4 21 = .ok (.iand, 1) := by decide +kernel
theorem dJ6_bitCount_0f7a4_22 : decode cJ6_bitCount_0f7a4 22 = .ok (.iadd, 1) := by decide +kernel
theorem dJ6_bitCount_0f7a4_23 : decode cJ6_bitCount_0f7a4 23 = .ok (.istore_n 0, 1) := by decide +kernel
theorem dJ6_bitCount_0f7a4_24 : decode cJ6_bitCount_0f7a4 24 = .ok (.iload_n 0, 1) := by decide +kernel
theorem dJ6_bitCount_0f7a4_25 : decode cJ6_bitCount_0f7a4 25 = .ok (.iload_n 0, 1) := by decide +kernel
theorem dJ6_bitCount_0f7a4_26 : decode cJ6_bitCount_0f7a4 26 = .ok (.iconst 4, 1) := by decide +kernel
theorem dJ6_bitCount_0f7a4_27 : decode cJ6_bitCount_0f7a4 27 = .ok (.iushr, 1) := by decide +kernel
theorem dJ6_bitCount_0f7a4_28 : decode cJ6_bitCount_0f7a4 28 = .ok (.iadd, 1) := by decide +kernel
theorem dJ6_bitCount_0f7a4_29 : decode cJ6_bitCount_0f7a4 29 = .ok (.ldc_w 267, 3) := by decide +kernel
theorem dJ6_bitCount_0f7a4_32 : decode cJ6_bitCount_0f7a4 32 = .ok (.iand, 1) := by decide +kernel
theorem dJ6_bitCount_0f7a4_33 : decode cJ6_bitCount_0f7a4 33 = .ok (.istore_n 0, 1) := by decide +kernel
theorem dJ6_bitCount_0f7a4_34 : decode cJ6_bitCount_0f7a4 34 = .ok (.iload_n 0, 1) := by decide +kernel
theorem dJ6_bitCount_0f7a4_35 : decode cJ6_bitCount_0f7a4 35 = .ok (.iload_n 0, 1) := by decide +kernel
theorem dJ6_bitCount_0f7a4_36 : decode cJ6_bitCount_0f7a4 36 = .ok (.bipush 8, 2) := by decide +kernel
theorem dJ6_bitCount_0f7a4_38 : decode cJ6_bitCount_0f7a4 38 = .ok (.iushr, 1) := by decide +kernel
theorem dJ6_bitCount_0f7a4_39 : decode cJ6_bitCount_0f7a4 39 = .ok (.iadd, 1) := by decide +kernel
theorem dJ6_bitCount_0f7a4_40 : decode cJ6_bitCount_0f7a4 40 = .ok (.istore_n 0, 1) := by decide +kernel
theorem dJ6_bitCount_0f7a4_41 : decode cJ6_bitCount_0f7a4 41 = .ok (.iload_n 0, 1) := by decide +kernel
theorem dJ6_bitCount_0f7a4_42 : decode cJ6_bitCount_0f7a4 42 = .ok (.iload_n 0, 1) := by decide +kernel
theorem dJ6_bitCount_0f7a4_43 : decode cJ6_bitCount_0f7a4 43 = .ok (.bipush 16, 2) := by decide +kernel
theorem dJ6_bitCount_0f7a4_45 : decode cJ6_bitCount_0f7a4 45 = .ok (.iushr, 1) := by decide +kernel
theorem dJ6_bitCount_0f7a4_46 : decode cJ6_bitCount_0f7a4 46 = .ok (.iadd, 1) := by decide +kernel
theorem dJ6_bitCount_0f7a4_47 : decode cJ6_bitCount_0f7a4 47 = .ok (.istore_n 0, 1) := by decide +kernel
theorem dJ6_bitCount_0f7a4_48 : decode cJ6_bitCount_0f7a4 48 = .ok (.iload_n 0, 1) := by decide +kernel
theorem dJ6_bitCount_0f7a4_49 : decode cJ6_bitCount_0f7a4 49 = .ok (.bipush 63, 2) := by decide +kernel
theorem dJ6_bitCount_0f7a4_51 : decode cJ6_bitCount_0f7a4 51 = .ok (.iand, 1) := by decide +kernel
theorem dJ6_bitCount_0f7a4_52 : decode cJ6_bitCount_0f7a4 52 = .ok (.ireturn, 1) := by decide +kernel
theorem dJ9_max_7cf53_0 : decode cJ9_max_7cf53 0 = .ok (.iload_n 0, 1) := by decide +kernel
theorem dJ9_max_7cf53_1 : decode cJ9_max_7cf53 1 = .ok (.iload_n 1, 1) := by decide +kernel
theorem dJ9_max_7cf53_2 : decode cJ9_max_7cf53 2 = .ok (.if_icmp .lt 7, 3) := by decide +kernel
theorem dJ9_max_7cf53_5 : decode cJ9_max_7cf53 5 = .ok (.iload_n 0, 1) := by decide +kernel
theorem dJ9_max_7cf53_6 : decode cJ9_max_7cf53 6 = .ok (.goto 4, 3) := by decide +kernel
theorem dJ9_max_7cf53_9 : decode cJ9_max_7cf53 9 = .ok (.iload_n 1, 1) := by decide +kernel
theorem dJ9_max_7cf53_10 : decode cJ9_max_7cf53 10 = .ok (.ireturn, 1) := by decide +kernel
theorem dJ9_min_7cf53_0 : decode cJ9_min_7cf53 0 = .ok (.iload_n 0, 1) := by decide +kernel
theorem dJ9_min_7cf53_1 : decode cJ9_min_7cf53 1 = .ok (.iload_n 1, 1) := by decide +kernel
theorem dJ9_min_7cf53_2 : decode cJ9_min_7cf53 2 = .ok (.if_icmp .gt 7, 3) := by decide +kernel
theorem dJ9_min_7cf53_5 : decode cJ9_min_7cf53 5 = .ok (.iload_n 0, 1) := by decide +kernel
theorem dJ9_min_7cf53_6 : decode cJ9_min_7cf53 6 = .ok (.goto 4, 3) := by decide +kernel
theorem dJ9_min_7cf53_9 : decode cJ9_min_7cf53 9 = .ok (.iload_n 1, 1) := by decide +kernel
theorem dJ9_min_7cf53_10 : decode cJ9_min_7cf53 10 = .ok (.ireturn, 1) := by decide +kernel
theorem dJxa1e45_init_da8c8_0 : decode cJxa1e45_init_da8c8 0 = .ok (.aload_n 0, 1) := by decide +kernel
theorem dJxa1e45_init_da8c8_1 : decode cJxa1e45_init_da8c8 1 = .ok (.invokespecial 1, 3) := by decide +kernel
theorem dJxa1e45_init_da8c8_4 : decode cJxa1e45_init_da8c8 4 = .ok (.return_, 1) := by decide +kernel
theorem dJxc12de_init_da8c8_0 : decode cJxc12de_init_da8c8 0 = .ok (.aload_n 0, 1) := by decide +kernel
theorem dJxc12de_init_da8c8_1 : decode cJxc12de_init_da8c8 1 = .ok (.invokespecial 1, 3) := by decide +kernel
theorem dJxc12de_init_da8c8_4 : decode cJxc12de_init_da8c8 4 = .ok (.aload_n 0, 1) := by decide +kernel
theorem dJxc12de_init_da8c8_5 : decode cJxc12de_init_da8c8 5 = .ok (.iconst 0, 1) := by decide +kernel
theorem dJxc12de_init_da8c8_6 : decode cJxc12de_init_da8c8 6 = .ok (.putfield 7, 3) := by decide +kernel
theorem dJxc12de_init_da8c8_9 : decode cJxc12de_init_da8c8 9 = .ok (.return_, 1) := by decide +kernel
theorem dJx4a65c_init_da8c8_0 : decode cJx4a65c_init_da8c8 0 = .ok (.aload_n 0, 1) := by decide +kernel
theorem dJx4a65c_init_da8c8_1 : decode cJx4a65c_init_da8c8 1 = .ok (.invokespecial 1, 3) := by decide +kernel
theorem dJx4a65c_init_da8c8_4 : decode cJx4a65c_init_da8c8 4 = .ok (.aload_n 0, 1) := by decide +kernel
theorem dJx4a65c_init_da8c8_5 : decode cJx4a65c_init_da8c8 5 = .ok (.getstatic 39, 3) := by decide +kernel
theorem dJx4a65c_init_da8c8_8 : decode cJx4a65c_init_da8c8 8 = .ok (.putfield 9, 3) := by decide +kernel
theorem dJx4a65c_init_da8c8_11 : decode cJx4a65c_init_da8c8 11 = .ok (.return_, 1) := by decide +kernel
theorem dJx4a65c_grow_92f84_0 : decode cJx4a65c_grow_92f84 0 = .ok (.aload_n 0, 1) := by decide +kernel
theorem dJx4a65c_grow_92f84_1 : decode cJx4a65c_grow_92f84 1 = .ok (.getfield 9, 3) := by decide +kernel
theorem dJx4a65c_grow_92f84_4 : decode cJx4a65c_grow_92f84 4 = .ok (.arraylength, 1) := by decide +kernel
theorem dJx4a65c_grow_92f84_5 : decode cJx4a65c_grow_92f84 5 = .ok (.istore_n 2, 1) := by decide +kernel
theorem dJx4a65c_grow_92f84_6 : decode cJx4a65c_grow_92f84 6 = .ok (.iload_n 2, 1) := by decide +kernel
theorem dJx4a65c_grow_92f84_7 : decode cJx4a65c_grow_92f84 7 = .ok (.ifCond .gt 13, 3) := by decide +kernel
theorem dJx4a65c_grow_92f84_10 : decode cJx4a65c_grow_92f84 10 = .ok (.aload_n 0, 1) := by decide +kernel
theorem dJx4a65c_grow_92f84_11 : decode cJx4a65c_grow_92f84 11 = .ok (.getfield 9, 3) := by decide +kernel
theorem dJx4a65c_grow_92f84_14 : decode cJx4a65c_grow_92f84 14 = .ok (.getstatic 39, 3) := by decide +kernel
theorem dJx4a65c_grow_92f84_17 : decode cJx4a65c_grow_92f84 17 = .ok (.if_acmp .eq 28, 3) := by decide +kernel
theorem dJx4a65c_grow_92f84_20 : decode cJx4a65c_grow_92f84 20 = .ok (.iload_n 2, 1) := by decide +kernel
theorem dJx4a65c_grow_92f84_21 : decode cJx4a65c_grow_92f84 21 = .ok (.iload_n 1, 1) := by decide +kernel
theorem dJx4a65c_grow_92f84_22 : decode cJx4a65c_grow_92f84 22 = .ok (.iload_n 2, 1) := by decide +kernel
theorem dJx4a65c_grow_92f84_23 : decode cJx4a65c_grow_92f84 23 = .ok (.isub, 1) := by decide +kernel
theorem dJx4a65c_grow_92f84_24 : decode cJx4a65c_grow_92f84 24 = .ok (.iload_n 2, 1) := by decide +kernel
theorem dJx4a65c_grow_92f84_25 : decode cJx4a65c_grow_92f84 25 = .ok (.iconst 1, 1) := by decide +kernel
theorem dJx4a65c_grow_92f84_26 : decode cJx4a65c_grow_92f84 26 = .ok (.ishr, 1) := by decide +kernel
theorem dJx4a65c_grow_92f84_27 : decode cJx4a65c_grow_92f84 27 = .ok (.invokestatic 73, 3) := by decide +kernel
theorem dJx4a65c_grow_92f84_30 : decode cJx4a65c_grow_92f84 30 = .ok (.istore_n 3, 1) := by decide +kernel
theorem dJx4a65c_grow_92f84_31 : decode cJx4a65c_grow_92f84 31 = .ok (.aload_n 0, 1) := by decide +kernel
theorem dJx4a65c_grow_92f84_32 : decode cJx4a65c_grow_92f84 32 = .ok (.aload_n 0, 1) := by decide +kernel
theorem dJx4a65c_grow_92f84_33 : decode cJx4a65c_grow_92f84 33 = .ok (.getfield 9, 3) := by decide +kernel
theorem dJx4a65c_grow_92f84_36 : decode cJx4a65c_grow_92f84 36 = .ok (.iload_n 3, 1) := by decide +kernel
theorem dJx4a65c_grow_92f84_37 : decode cJx4a65c_grow_92f84 37 = .ok (.invokestatic 66, 3) := by decide +kernel
theorem dJx4a65c_grow_92f84_40 : decode cJx4a65c_grow_92f84 40 = .ok (.dup_x1, 1) := by decide +kernel
theorem dJx4a65c_grow_92f84_41 : decode cJx4a65c_grow_92f84 41 = .ok (.putfield 9, 3) := by decide +kernel
theorem dJx4a65c_grow_92f84_44 : decode cJx4a65c_grow_92f84 44 = .ok (.areturn, 1) := by decide +kernel
theorem dJx4a65c_grow_92f84_45 : decode cJx4a65c_grow_92f84 45 = .ok (.aload_n 0, 1) := by decide +kernel
theorem dJx4a65c_grow_92f84_46 : decode cJx4a65c_grow_92f84 46 = .ok (.bipush 10, 2) := by decide +kernel
theorem dJx4a65c_grow_92f84_48 : decode cJx4a65c_grow_92f84 48 = .ok (.iload_n 1, 1) := by decide +kernel
theorem dJx4a65c_grow_92f84_49 : decode cJx4a65c_grow_92f84 49 = .ok (.invokestatic 79, 3) := by decide +kernel
theorem dJx4a65c_grow_92f84_52 : decode cJx4a65c_grow_92f84 52 = .ok (.anewarray 7, 3) := by decide +kernel
theorem dJx4a65c_grow_92f84_55 : decode cJx4a65c_grow_92f84 55 = .ok (.dup_x1, 1) := by decide +kernel
theorem dJx4a65c_grow_92f84_56 : decode cJx4a65c_grow_92f84 56 = .ok (.putfield 9, 3) := by decide +kernel
theorem dJx4a65c_grow_92f84_59 : decode cJx4a65c_grow_92f84 59 = .ok (.areturn, 1) := by decide +kernel
theorem dJx4a65c_grow_d5877_0 : decode cJx4a65c_grow_d5877 0 = .ok (.aload_n 0, 1) := by decide +kernel
theorem dJx4a65c_grow_d5877_1 : decode cJx4a65c_grow_d5877 1 = .ok (.aload_n 0, 1) := by decide +kernel
theorem dJx4a65c_grow_d5877_2 : decode cJx4a65c_grow_d5877 2 = .ok (.getfield 48, 3) := by decide +kernel
theorem dJx4a65c_grow_d5877_5 : decode cJx4a65c_grow_d5877 5 = .ok (.iconst 1, 1) := by decide +kernel
theorem dJx4a65c_grow_d5877_6 : decode cJx4a65c_grow_d5877 6 = .ok (.iadd, 1) := by decide +kernel
theorem dJx4a65c_grow_d5877_7 : decode cJx4a65c_grow_d5877 7 = .ok (.invokevirtual 69, 3) := by decide +kernel
theorem dJx4a65c_grow_d5877_10 : decode cJx4a65c_grow_d5877 10 = .ok (.areturn, 1) := by decide +kernel
theorem dJx4a65c_size_8abf5_0 : decode cJx4a65c_size_8abf5 0 = .ok (.aload_n 0, 1) := by decide +kernel
theorem dJx4a65c_size_8abf5_1 : decode cJx4a65c_size_8abf5 1 = .ok (.getfield 48, 3) := by decide +kernel
theorem dJx4a65c_size_8abf5_4 : decode cJx4a65c_size_8abf5 4 = .ok (.ireturn, 1) := by decide +kernel
theorem dJx4a65c_elementData_915e3_0 : decode cJx4a65c_elementData_915e3 0 = .ok (.aload_n 0, 1) := by decide +kernel
theorem dJx4a65c_elementData_915e3_1 : decode cJx4a65c_elementData_915e3 1 = .ok (.getfield 9, 3) := by decide +kernel
theorem dJx4a65c_elementData_915e3_4 : decode cJx4a65c_elementData_915e3 4 = .ok (.iload_n 1, 1) := by decide +kernel
theorem dJx4a65c_elementData_915e3_5 : decode cJx4a65c_elementData_915e3 5 = .ok (.aaload, 1) := by decide +kernel
theorem dJx4a65c_elementData_915e3_6 : decode cJx4a65c_elementData_915e3 6 = .ok (.areturn, 1) := by decide +kernel
theorem dJx4a65c_get_915e3_0 : decode cJx4a65c_get_915e3 0 = .ok (.iload_n 1, 1) := by decide +kernel
theorem dJx4a65c_get_915e3_1 : decode cJx4a65c_get_915e3 1 = .ok (.aload_n 0, 1) := by decide +kernel
theorem dJx4a65c_get_915e3_2 : decode cJx4a65c_get_915e3 2 = .ok (.getfield 48, 3) := by decide +kernel
theorem dJx4a65c_get_915e3_5 : decode cJx4a65c_get_915e3 5 = .ok (.invokestatic 118, 3) := by decide +kernel
theorem dJx4a65c_get_915e3_8 : decode cJx4a65c_get_915e3 8 = .ok (.pop, 1) := by decide +kernel
theorem dJx4a65c_get_915e3_9 : decode cJx4a65c_get_915e3 9 = .ok (.aload_n 0, 1) := by decide +kernel
theorem dJx4a65c_get_915e3_10 : decode cJx4a65c_get_915e3 10 = .ok (.iload_n 1, 1) := by decide +kernel
theorem dJx4a65c_get_915e3_11 : decode cJx4a65c_get_915e3 11 = .ok (.invokevirtual 123, 3) := by decide +kernel
theorem dJx4a65c_get_915e3_14 : decode cJx4a65c_get_915e3 14 = .ok (.areturn, 1) := by decide +kernel
theorem dJx4a65c_add_72be8_0 : decode cJx4a65c_add_72be8 0 = .ok (.iload_n 3, 1) := by decide +kernel
theorem dJx4a65c_add_72be8_1 : decode cJx4a65c_add_72be8 1 = .ok (.aload_n 2, 1) := by decide +kernel
theorem dJx4a65c_add_72be8_2 : decode cJx4a65c_add_72be8 2 = .ok (.arraylength, 1) := by decide +kernel
theorem dJx4a65c_add_72be8_3 : decode cJx4a65c_add_72be8 3 = .ok (.if_icmp .ne 8, 3) := by decide +kernel
theorem dJx4a65c_add_72be8_6 : decode cJx4a65c_add_72be8 6 = .ok (.aload_n 0, 1) := by decide +kernel
theorem dJx4a65c_add_72be8_7 : decode cJx4a65c_add_72be8 7 = .ok (.invokevirtual 129, 3) := by decide +kernel
theorem dJx4a65c_add_72be8_10 : decode cJx4a65c_add_72be8 10 = .ok (.astore_n 2, 1) := by decide +kernel
theorem dJx4a65c_add_72be8_11 : decode cJx4a65c_add_72be8 11 = .ok (.aload_n 2, 1) := by decide +kernel
theorem dJx4a65c_add_72be8_12 : decode cJx4a65c_add_72be8 12 = .ok (.iload_n 3, 1) := by decide +kernel
theorem dJx4a65c_add_72be8_13 : decode cJx4a65c_add_72be8 13 = .ok (.aload_n 1, 1) := by decide +kernel
theorem dJx4a65c_add_72be8_14 : decode cJx4a65c_add_72be8 14 = .ok (.aastore, 1) := by decide +kernel
theorem dJx4a65c_add_72be8_15 : decode cJx4a65c_add_72be8 15 = .ok (.aload_n 0, 1) := by decide +kernel
theorem dJx4a65c_add_72be8_16 : decode cJx4a65c_add_72be8 16 = .ok (.iload_n 3, 1) := by decide +kernel
theorem dJx4a65c_add_72be8_17 : decode cJx4a65c_add_72be8 17 = .ok (.iconst 1, 1) := by decide +kernel
theorem dJx4a65c_add_72be8_18 : decode cJx4a65c_add_72be8 18 = .ok (.iadd, 1) := by decide +kernel
theorem dJx4a65c_add_72be8_19 : decode cJx4a65c_add_72be8 19 = .ok (.putfield 48, 3) := by decide +kernel
theorem dJx4a65c_add_72be8_22 : decode cJx4a65c_add_72be8 22 = .ok (.return_, 1) := by decide +kernel
theorem dJx4a65c_add_9ea2d_0 : decode cJx4a65c_add_9ea2d 0 = .ok (.aload_n 0, 1) := by decide +kernel
theorem dJx4a65c_add_9ea2d_1 : decode cJx4a65c_add_9ea2d 1 = .ok (.dup, 1) := by decide +kernel
theorem dJx4a65c_add_9ea2d_2 : decode cJx4a65c_add_9ea2d 2 = .ok (.getfield 63, 3) := by decide +kernel
theorem dJx4a65c_add_9ea2d_5 : decode cJx4a65c_add_9ea2d 5 = .ok (.iconst 1, 1) := by decide +kernel
theorem dJx4a65c_add_9ea2d_6 : decode cJx4a65c_add_9ea2d 6 = .ok (.iadd, 1) := by decide +kernel
theorem dJx4a65c_add_9ea2d_7 : decode cJx4a65c_add_9ea2d 7 = .ok (.putfield 63, 3) := by decide +kernel
theorem dJx4a65c_add_9ea2d_10 : decode cJx4a65c_add_9ea2d 10 = .ok (.aload_n 0, 1) := by decide +kernel
theorem dJx4a65c_add_9ea2d_11 : decode cJx4a65c_add_9ea2d 11 = .ok (.aload_n 1, 1) := by decide +kernel
theorem dJx4a65c_add_9ea2d_12 : decode cJx4a65c_add_9ea2d 12 = .ok (.aload_n 0, 1) := by decide +kernel
theorem dJx4a65c_add_9ea2d_13 : decode cJx4a65c_add_9ea2d 13 = .ok (.getfield 9, 3) := by decide +kernel
theorem dJx4a65c_add_9ea2d_16 : decode cJx4a65c_add_9ea2d 16 = .ok (.aload_n 0, 1) := by decide +kernel
theorem dJx4a65c_add_9ea2d_17 : decode cJx4a65c_add_9ea2d 17 = .ok (.getfield 48, 3) := by decide +kernel
theorem dJx4a65c_add_9ea2d_20 : decode cJx4a65c_add_9ea2d 20 = .ok (.invokevirtual 131, 3) := by decide +kernel
theorem dJx4a65c_add_9ea2d_23 : decode cJx4a65c_add_9ea2d 23 = .ok (.iconst 1, 1) := by decide +kernel
theorem dJx4a65c_add_9ea2d_24 : decode cJx4a65c_add_9ea2d 24 = .ok (.ireturn, 1) := by decide +kernel
theorem dJ7_copyOf_1904c_0 : decode cJ7_copyOf_1904c 0 = .ok (.aload_n 0, 1) := by decide +kernel
theorem dJ7_copyOf_1904c_1 : decode cJ7_copyOf_1904c 1 = .ok (.iload_n 1, 1) := by decide +kernel
theorem dJ7_copyOf_1904c_2 : decode cJ7_copyOf_1904c 2 = .ok (.aload_n 0, 1) := by decide +kernel
theorem dJ7_copyOf_1904c_3 : decode cJ7_copyOf_1904c 3 = .ok (.invokevirtual 86, 3) := by decide +kernel
theorem dJ7_copyOf_1904c_6 : decode cJ7_copyOf_1904c 6 = .ok (.invokestatic 300, 3) := by decide +kernel
theorem dJ7_copyOf_1904c_9 : decode cJ7_copyOf_1904c 9 = .ok (.areturn, 1) := by decide +kernel
theorem dJ7_copyOf_6403c_0 : decode cJ7_copyOf_6403c 0 = .ok (.aload_n 2, 1) := by decide +kernel
theorem dJ7_copyOf_6403c_1 : decode cJ7_copyOf_6403c 1 = .ok (.ldc 110, 2) := by decide +kernel
theorem dJ7_copyOf_6403c_3 : decode cJ7_copyOf_6403c 3 = .ok (.if_acmp .ne 10, 3) := by decide +kernel
theorem dJ7_copyOf_6403c_6 : decode cJ7_copyOf_6403c 6 = .ok (.iload_n 1, 1) := by decide +kernel
theorem dJ7_copyOf_6403c_7 : decode cJ7_copyOf_6403c 7 = .ok (.anewarray 2, 3) := by decide +kernel
theorem dJ7_copyOf_6403c_10 : decode cJ7_copyOf_6403c 10 = .ok (.goto 14, 3) := by decide +kernel
theorem dJ7_copyOf_6403c_13 : decode cJ7_copyOf_6403c 13 = .ok (.aload_n 2, 1) := by decide +kernel
theorem dJ7_copyOf_6403c_14 : decode cJ7_copyOf_6403c 14 = .ok (.invokevirtual 90, 3) := by decide +kernel
theorem dJ7_copyOf_6403c_17 : decode cJ7_copyOf_6403c 17 = .ok (.iload_n 1, 1) := by decide +kernel
theorem dJ7_copyOf_6403c_18 : decode cJ7_copyOf_6403c 18 = .ok (.invokestatic 95, 3) := by decide +kernel
theorem dJ7_copyOf_6403c_21 : decode cJ7_copyOf_6403c 21 = .ok (.checkcast 110, 3) := by decide +kernel
theorem dJ7_copyOf_6403c_24 : decode cJ7_copyOf_6403c 24 = .ok (.astore_n 3, 1) := by decide +kernel
theorem dJ7_copyOf_6403c_25 : decode cJ7_copyOf_6403c 25 = .ok (.aload_n 0, 1) := by decide +kernel
theorem dJ7_copyOf_6403c_26 : decode cJ7_copyOf_6403c 26 = .ok (.iconst 0, 1) := by decide +kernel
theorem dJ7_copyOf_6403c_27 : decode cJ7_copyOf_6403c 27 = .ok (.aload_n 3, 1) := by decide +kernel
theorem dJ7_copyOf_6403c_28 : decode cJ7_copyOf_6403c 28 = .ok (.iconst 0, 1) := by decide +kernel
theorem dJ7_copyOf_6403c_29 : decode cJ7_copyOf_6403c 29 = .ok (.aload_n 0, 1) := by decide +kernel
theorem dJ7_copyOf_6403c_30 : decode cJ7_copyOf_6403c 30 = .ok (.arraylength, 1) := by decide +kernel
theorem dJ7_copyOf_6403c_31 : decode cJ7_copyOf_6403c 31 = .ok (.iload_n 1, 1) := by decide +kernel
theorem dJ7_copyOf_6403c_32 : decode cJ7_copyOf_6403c 32 = .ok (.invokestatic 304, 3) := by decide +kernel
theorem dJ7_copyOf_6403c_35 : decode cJ7_copyOf_6403c 35 = .ok (.invokestatic 150, 3) := by decide +kernel
theorem dJ7_copyOf_6403c_38 : decode cJ7_copyOf_6403c 38 = .ok (.aload_n 3, 1) := by decide +kernel
theorem dJ7_copyOf_6403c_39 : decode cJ7_copyOf_6403c 39 = .ok (.areturn, 1) := by decide +kernel
theorem dJ15_checkIndex_7cf53_0 : decode cJ15_checkIndex_7cf53 0 = .ok (.iload_n 0, 1) := by decide +kernel
theorem dJ15_checkIndex_7cf53_1 : decode cJ15_checkIndex_7cf53 1 = .ok (.iload_n 1, 1) := by decide +kernel
theorem dJ15_checkIndex_7cf53_2 : decode cJ15_checkIndex_7cf53 2 = .ok (.aconst_null, 1) := by decide +kernel
theorem dJ15_checkIndex_7cf53_3 : decode cJ15_checkIndex_7cf53 3 = .ok (.invokestatic 105, 3) := by decide +kernel
theorem dJ15_checkIndex_7cf53_6 : decode cJ15_checkIndex_7cf53 6 = .ok (.ireturn, 1) := by decide +kernel
theorem dJ8_newLength_cabcc_0 : decode cJ8_newLength_cabcc 0 = .ok (.iload_n 0, 1) := by decide +kernel
theorem dJ8_newLength_cabcc_1 : decode cJ8_newLength_cabcc 1 = .ok (.iload_n 1, 1) := by decide +kernel
theorem dJ8_newLength_cabcc_2 : decode cJ8_newLength_cabcc 2 = .ok (.iload_n 2, 1) := by decide +kernel
theorem dJ8_newLength_cabcc_3 : decode cJ8_newLength_cabcc 3 = .ok (.invokestatic 194, 3) := by decide +kernel
theorem dJ8_newLength_cabcc_6 : decode cJ8_newLength_cabcc 6 = .ok (.iadd, 1) := by decide +kernel
theorem dJ8_newLength_cabcc_7 : decode cJ8_newLength_cabcc 7 = .ok (.istore_n 3, 1) := by decide +kernel
theorem dJ8_newLength_cabcc_8 : decode cJ8_newLength_cabcc 8 = .ok (.iconst 0, 1) := by decide +kernel
theorem dJ8_newLength_cabcc_9 : decode cJ8_newLength_cabcc 9 = .ok (.iload_n 3, 1) := by decide +kernel
theorem dJ8_newLength_cabcc_10 : decode cJ8_newLength_cabcc 10 = .ok (.if_icmp .ge 11, 3) := by decide +kernel
theorem dJ8_newLength_cabcc_13 : decode cJ8_newLength_cabcc 13 = .ok (.iload_n 3, 1) := by decide +kernel
theorem dJ8_newLength_cabcc_14 : decode cJ8_newLength_cabcc 14 = .ok (.ldc 200, 2) := by decide +kernel
theorem dJ8_newLength_cabcc_16 : decode cJ8_newLength_cabcc 16 = .ok (.if_icmp .gt 5, 3) := by decide +kernel
theorem dJ8_newLength_cabcc_19 : decode cJ8_newLength_cabcc 19 = .ok (.iload_n 3, 1) := by decide +kernel
theorem dJ8_newLength_cabcc_20 : decode cJ8_newLength_cabcc 20 = .ok (.ireturn, 1) := by decide +kernel
theorem dJ8_newLength_cabcc_21 : decode cJ8_newLength_cabcc 21 = .ok (.iload_n 0, 1) := by decide +kernel
theorem dJ8_newLength_cabcc_22 : decode cJ8_newLength_cabcc 22 = .ok (.iload_n 1, 1) := by decide +kernel
theorem dJ8_newLength_cabcc_23 : decode cJ8_newLength_cabcc 23 = .ok (.invokestatic 201, 3) := by decide +kernel
theorem dJ8_newLength_cabcc_26 : decode cJ8_newLength_cabcc 26 = .ok (.ireturn, 1) := by decide +kernel
theorem dJ8_hugeLength_7cf53_0 : decode cJ8_hugeLength_7cf53 0 = .ok (.iload_n 0, 1) := by decide +kernel
theorem dJ8_hugeLength_7cf53_1 : decode cJ8_hugeLength_7cf53 1 = .ok (.iload_n 1, 1) := by decide +kernel
theorem dJ8_hugeLength_7cf53_2 : decode cJ8_hugeLength_7cf53 2 = .ok (.iadd, 1) := by decide +kernel
theorem dJ8_hugeLength_7cf53_3 : decode cJ8_hugeLength_7cf53 3 = .ok (.istore_n 2, 1) := by decide +kernel
theorem dJ8_hugeLength_7cf53_4 : decode cJ8_hugeLength_7cf53 4 = .ok (.iload_n 2, 1) := by decide +kernel
theorem dJ8_hugeLength_7cf53_5 : decode cJ8_hugeLength_7cf53 5 = .ok (.ifCond .ge 44, 3) := by decide +kernel
theorem dJ8_hugeLength_7cf53_8 : decode cJ8_hugeLength_7cf53 8 = .ok (.new 204, 3) := by decide +kernel
theorem dJ8_hugeLength_7cf53_11 : decode cJ8_hugeLength_7cf53 11 = .ok (.dup, 1) := by decide +kernel
theorem dJ8_hugeLength_7cf53_12 : decode cJ8_hugeLength_7cf53 12 = .ok (.new 89, 3) := by decide +kernel
theorem dJ8_hugeLength_7cf53_15 : decode cJ8_hugeLength_7cf53 15 = .ok (.dup, 1) := by decide +kernel
theorem dJ8_hugeLength_7cf53_16 : decode cJ8_hugeLength_7cf53 16 = .ok (.invokespecial 91, 3) := by decide +kernel
theorem dJ8_hugeLength_7cf53_19 : decode cJ8_hugeLength_7cf53 19 = .ok (.ldc 206, 2) := by decide +kernel
theorem dJ8_hugeLength_7cf53_21 : decode cJ8_hugeLength_7cf53 21 = .ok (.invokevirtual 94, 3) := by decide +kernel
theorem dJ8_hugeLength_7cf53_24 : decode cJ8_hugeLength_7cf53 24 = .ok (.iload_n 0, 1) := by decide +kernel
theorem dJ8_hugeLength_7cf53_25 : decode cJ8_hugeLength_7cf53 25 = .ok (.invokevirtual 98, 3) := by decide +kernel
theorem dJ8_hugeLength_7cf53_28 : decode cJ8_hugeLength_7cf53 28 = .ok (.ldc 208, 2) := by decide +kernel
theorem dJ8_hugeLength_7cf53_30 : decode cJ8_hugeLength_7cf53 30 = .ok (.invokevirtual 94, 3) := by decide +kernel
theorem dJ8_hugeLength_7cf53_33 : decode cJ8_hugeLength_7cf53 33 = .ok (.iload_n 1, 1) := by decide +kernel
theorem dJ8_hugeLength_7cf53_34 : decode cJ8_hugeLength_7cf53 34 = .ok (.invokevirtual 98, 3) := by decide +kernel
theorem dJ8_hugeLength_7cf53_37 : decode cJ8_hugeLength_7cf53 37 = .ok (.ldc 210, 2) := by decide +kernel
theorem dJ8_hugeLength_7cf53_39 : decode cJ8_hugeLength_7cf53 39 = .ok (.invokevirtual 94, 3) := by decide +kernel
theorem dJ8_hugeLength_7cf53_42 : decode cJ8_hugeLength_7cf53 42 = .ok (.invokevirtual 101, 3) := by decide +kernel
theorem dJ8_hugeLength_7cf53_45 : decode cJ8_hugeLength_7cf53 45 = .ok (.invokespecial 212, 3) := by decide +kernel
theorem dJ8_hugeLength_7cf53_48 : decode cJ8_hugeLength_7cf53 48 = .ok (.athrow, 1) := by decide +kernel
theorem dJ8_hugeLength_7cf53_49 : decode cJ8_hugeLength_7cf53 49 = .ok (.iload_n 2, 1) := by decide +kernel
theorem dJ8_hugeLength_7cf53_50 : decode cJ8_hugeLength_7cf53 50 = .ok (.ldc 200, 2) := by decide +kernel
theorem dJ8_hugeLength_7cf53_52 : decode cJ8_hugeLength_7cf53 52 = .ok (.if_icmp .gt 6, 3) := by decide +kernel
theorem dJ8_hugeLength_7cf53_55 : decode cJ8_hugeLength_7cf53 55 = .ok (.ldc 200, 2) := by decide +kernel
theorem dJ8_hugeLength_7cf53_57 : decode cJ8_hugeLength_7cf53 57 = .ok (.ireturn, 1) := by decide +kernel
theorem dJ8_hugeLength_7cf53_58 : decode cJ8_hugeLength_7cf53 58 = .ok (.iload_n 2, 1) := by decide +kernel
theorem dJ8_hugeLength_7cf53_59 : decode cJ8_hugeLength_7cf53 59 = .ok (.ireturn, 1) := by decide +kernel
theorem dJ3_checkIndex_8e157_0 : decode cJ3_checkIndex_8e157 0 = .ok (.iload_n 0, 1) := by decide +kernel
theorem dJ3_checkIndex_8e157_1 : decode cJ3_checkIndex_8e157 1 = .ok (.ifCond .lt 8, 3) := by decide +kernel
theorem dJ3_checkIndex_8e157_4 : decode cJ3_checkIndex_8e157 4 = .ok (.iload_n 0, 1) := by decide +kernel
theorem dJ3_checkIndex_8e157_5 : decode cJ3_checkIndex_8e157 5 = .ok (.iload_n 1, 1) := by decide +kernel
theorem dJ3_checkIndex_8e157_6 : decode cJ3_checkIndex_8e157 6 = .ok (.if_icmp .lt 10, 3) := by decide +kernel
theorem dJ3_checkIndex_8e157_9 : decode cJ3_checkIndex_8e157 9 = .ok (.aload_n 2, 1) := by decide +kernel
theorem dJ3_checkIndex_8e157_10 : decode cJ3_checkIndex_8e157 10 = .ok (.iload_n 0, 1) := by decide +kernel
theorem dJ3_checkIndex_8e157_11 : decode cJ3_checkIndex_8e157 11 = .ok (.iload_n 1, 1) := by decide +kernel
theorem dJ3_checkIndex_8e157_12 : decode cJ3_checkIndex_8e157 12 = .ok (.invokestatic 95, 3) := by decide +kernel
theorem dJ3_checkIndex_8e157_15 : decode cJ3_checkIndex_8e157 15 = .ok (.athrow, 1) := by decide +kernel
theorem dJ3_checkIndex_8e157_16 : decode cJ3_checkIndex_8e157 16 = .ok (.iload_n 0, 1) := by decide +kernel
theorem dJ3_checkIndex_8e157_17 : decode cJ3_checkIndex_8e157 17 = .ok (.ireturn, 1) := by decide +kernel
