/** Promises 17 to 22: a test for each sentence that names a bound, a refusal, or what is not there. */
public final class BaleEdgesTest {
    private static final int NONE = Run.NONE;
    private static final int LEAST = Integer.MIN_VALUE;
    private static final int GREATEST = Integer.MAX_VALUE;

    public static void main(String[] args) throws IllegalAccessException {
        Run.all(BaleEdgesTest.class);
    }

    // ---- promise 17

    static void baleOfNoFamilyOrGrade() {
        Run r = families("17: NONE: 1 (FAMILY, GRADE)", 0, 0);
        r.quills(5, 0, 0, 1, 9);
        for (int family : new int[] {-1, 2, LEAST, GREATEST}) {
            r.refused(1, "bale", family, 1);
        }
        for (int grade : new int[] {0, 5, -1, LEAST, GREATEST}) {
            r.refused(1, "bale", 0, grade);
        }
        r.taken(0, "bale", 0, 1);
    }

    static void baleOfEachGrade() {
        Run r = families("17: A BALE of a FAMILY and GRADE", 0);
        int[][] widthsAndTastes = {{2, 7}, {4, 4}, {6, 0}, {9, 9}};
        for (int grade = 1; grade <= 4; grade++) {
            r.quills(5, 0, 0, widthsAndTastes[grade - 1][0], widthsAndTastes[grade - 1][1]);
            r.taken(grade - 1, "bale", 0, grade);
            r.due(grade, "baleOf", grade - 1, 1);
        }
    }

    static void baleOfFiveQuills() {
        Run r = families("IV: A BALE: 5 QUILLS; 17: 5", 0);
        r.refused(5, "bale", 0, 1);
        r.quills(4, 0, 0, 1, 9);
        r.refused(5, "bale", 0, 1);
        r.quills(1, 0, 0, 1, 9);
        r.taken(0, "bale", 0, 1);
        r.refused(5, "bale", 0, 1);
        for (int quill = 0; quill < 5; quill++) {
            r.due(0, "quill", quill, 4);
        }
    }

    static void baleOfOneFamily() {
        Run r = families("IV: 5 QUILLS of one FAMILY", 0, 0);
        r.quills(4, 0, 0, 1, 9);
        r.quills(4, 1, 0, 1, 9);
        r.refused(5, "bale", 0, 1);
        r.refused(5, "bale", 1, 1);
        r.quills(1, 1, 0, 1, 9);
        r.refused(5, "bale", 0, 1);
        r.taken(0, "bale", 1, 1);
        r.due(-2, "quill", 0, 4);
        r.due(0, "quill", 4, 4);
    }

    static void baleOfOneGrade() {
        Run r = families("IV: 5 QUILLS of one FAMILY and GRADE", 0);
        r.quills(4, 0, 0, 2, 7);
        r.quills(4, 0, 0, 2, 6);
        r.quills(4, 0, 0, 5, 6);
        r.quills(4, 0, 0, 7, 6);
        for (int grade = 1; grade <= 4; grade++) {
            r.refused(5, "bale", 0, grade);
        }
        r.quills(1, 0, 0, 5, 9);
        r.taken(0, "bale", 0, 3);
        r.due(0, "quill", 8, 4);
        r.due(0, "quill", 16, 4);
        r.due(-2, "quill", 7, 4);
        r.due(-2, "quill", 12, 4);
    }

    static void baleOfQuillsThatAreInNone() {
        Run r = families("IV: that aren't in one", 0);
        r.quills(9, 0, 0, 1, 9);
        r.taken(0, "bale", 0, 1);
        r.refused(5, "bale", 0, 1);
        r.quills(1, 0, 0, 1, 9);
        r.taken(1, "bale", 0, 1);
        for (int quill = 0; quill < 10; quill++) {
            r.due(quill / 5, "quill", quill, 4);
        }
    }

    static void baleOfTheFirstByNumber() {
        Run r = families("IV: the first by number", 0, 0);
        r.quills(2, 0, 0, 1, 9);
        r.quills(2, 1, 0, 1, 9);
        r.quills(2, 0, 0, 9, 9);
        r.quills(4, 0, 0, 1, 9);
        r.taken(0, "bale", 0, 1);
        int[] bales = {0, 0, -2, -2, -2, -2, 0, 0, 0, -2};
        for (int quill = 0; quill < bales.length; quill++) {
            r.due(bales[quill], "quill", quill, 4);
        }
    }

    static void baleTriesWhatIsThereFirst() {
        Run r = families("17: NONE: 1 (FAMILY, GRADE); 5", 0);
        r.refused(1, "bale", 1, 1);
        r.refused(1, "bale", 0, 5);
        r.refused(1, "bale", 1, 5);
        r.refused(5, "bale", 0, 4);
    }

    /** All QUILLS make fewer BALES and CHESTS than there is room for, so 3 is never the answer. */
    static void asManyBalesAndChestsAsCanBe() {
        Run r = families("I: BALES 60, CHESTS 20; 17: 5; 3 (BALES, CHESTS)", 0);
        r.quills(5, 0, 0, 1, 9);
        r.quills(5, 0, 0, 3, 9);
        r.quills(5, 0, 0, 5, 9);
        r.quills(105, 0, 0, 9, 9);
        r.due(120, "count", 3);
        for (int i = 0; i < 24; i++) {
            r.taken(i, "bale", 0, Math.min(4, i + 1));
        }
        r.due(24, "count", 4);
        r.due(7, "count", 5);
        for (int grade = 1; grade <= 4; grade++) {
            r.refused(5, "bale", 0, grade);
        }
        r.due(3, "chest", 6, 1);
        r.due(2400, "about", 0, 3);
    }

    // ---- terms IV: dues

    static void noDueIsPaidAtOnce() {
        Run r = families("IV: DUE (0 .. 20 BALES a YEAR)", 0);
        r.quills(5, 0, 0, 1, 9);
        bale(r, 0, false);
        r.due(0, "about", 0, 1);
        r.due(0, "about", 0, 2);
    }

    static void dueOfTwentyAndOneMore() {
        Run r = families("IV: if what it GAVE is less than its DUE it goes to DUES", 20);
        r.quills(105, 0, 0, 1, 9);
        for (int i = 0; i < 20; i++) {
            bale(r, i, true);
            r.due(i + 1, "about", 0, 1);
        }
        bale(r, 20, false);
        r.due(20, "about", 0, 1);
        r.due(100, "about", 0, 3);
    }

    static void dueOfOneAndOneMore() {
        Run r = families("IV: else it is PAID by its GRADE's PRICE", 1);
        r.quills(10, 0, 0, 1, 9);
        bale(r, 0, true);
        r.due(1, "about", 0, 1);
        r.due(0, "about", 0, 3);
        bale(r, 1, false);
        r.due(1, "about", 0, 1);
        r.due(100, "about", 0, 3);
    }

    static void lacksGoFirst() {
        Run r = families("IV: If its FAMILY LACKS some (of YEARS that are past) it goes to DUES, and LACKS is one less", 2);
        r.quills(25, 0, 0, 1, 9);
        r.goTo(60);
        int[][] lacksAndGave = {{1, 0}, {0, 0}, {0, 1}, {0, 2}};
        for (int i = 0; i < 4; i++) {
            bale(r, i, true);
            r.due(lacksAndGave[i][0], "about", 0, 2);
            r.due(lacksAndGave[i][1], "about", 0, 1);
        }
        bale(r, 4, false);
        r.due(0, "about", 0, 2);
        r.due(2, "about", 0, 1);
    }

    static void yearBeginsOnDaySixty() {
        Run r = families("IV: As a YEAR begins; I: a YEAR has 60 DAYS (DAY 0 .. 59 are YEAR 0)", 3);
        r.goTo(59);
        owes(r, 0, 0, 0);
        r.make("pass", 1);
        owes(r, 0, 0, 3);
        r.goTo(119);
        owes(r, 0, 0, 3);
        r.make("pass", 1);
        owes(r, 0, 0, 6);
    }

    static void whatWasGivenIsNotLacking() {
        Run r = families("IV: DUE less GAVE comes to LACKS, and GAVE is 0", 2, 2, 2, 0);
        r.quills(5, 1, 0, 1, 9);
        r.quills(10, 2, 0, 1, 9);
        r.make("bale", 1, 1);
        r.make("bale", 2, 1);
        r.make("bale", 2, 1);
        owes(r, 1, 1, 0);
        owes(r, 2, 2, 0);
        r.goTo(59);
        owes(r, 1, 1, 0);
        r.make("pass", 1);
        owes(r, 0, 0, 2);
        owes(r, 1, 0, 1);
        owes(r, 2, 0, 0);
        owes(r, 3, 0, 0);
        r.make("pass", 59);
        owes(r, 2, 0, 0);
        r.make("pass", 1);
        owes(r, 1, 0, 3);
        owes(r, 2, 0, 2);
    }

    static void balesBeyondTheDueCountForNoYear() {
        Run r = families("IV: DUE less GAVE comes to LACKS", 1);
        r.quills(15, 0, 0, 1, 9);
        r.many(3, "bale", 0, 1);
        owes(r, 0, 1, 0);
        r.goTo(60);
        owes(r, 0, 0, 0);
        r.goTo(120);
        owes(r, 0, 0, 1);
    }

    static void severalYearsBeginInOnePass() {
        Run r = families("IV: As a YEAR begins", 2);
        r.quills(5, 0, 0, 1, 9);
        r.make("bale", 0, 1);
        r.goTo(59);
        r.make("pass", 121);
        owes(r, 0, 0, 5);
        r = families("IV: As a YEAR begins", 2);
        r.goTo(59);
        r.make("pass", 120);
        owes(r, 0, 0, 4);
        r = families("IV: As a YEAR begins", 2);
        r.make("pass", 200);
        owes(r, 0, 0, 6);
        r.make("pass", 200);
        owes(r, 0, 0, 12);
    }

    static void familyOwesFromTheYearItCame() {
        Run r = families("IV: As a YEAR begins DUE less GAVE comes to LACKS");
        r.goTo(59);
        r.make("family", 5);
        r.make("pass", 1);
        r.make("family", 7);
        owes(r, 0, 0, 5);
        owes(r, 1, 0, 0);
        r.goTo(119);
        owes(r, 1, 0, 0);
        r.make("pass", 1);
        owes(r, 0, 0, 10);
        owes(r, 1, 0, 7);
    }

    static void allYearsOwed() {
        Run r = families("I: DAYS 0 .. 3,000; IV: DUE (0 .. 20 BALES a YEAR)", 20);
        r.goTo(2999);
        owes(r, 0, 0, 980);
        r.make("pass", 1);
        owes(r, 0, 0, 1000);
    }

    static void lacksOfAnotherFamilyAreNotMine() {
        Run r = families("IV: If its FAMILY LACKS some", 1, 0);
        r.quills(5, 1, 0, 1, 9);
        r.goTo(60);
        r.taken(0, "bale", 1, 1);
        r.due(0, "baleOf", 0, 4);
        r.due(100, "about", 1, 3);
        owes(r, 0, 0, 1);
    }

    static void paidByThePriceOfThatDay() {
        Run r = families("IV: it is PAID by its GRADE's PRICE", 0);
        r.quills(15, 0, 0, 1, 9);
        r.make("price", 2, 7);
        r.make("bale", 0, 1);
        r.make("price", 1, 9999);
        r.make("bale", 0, 1);
        r.make("price", 1, 0);
        r.make("bale", 0, 1);
        r.due(100, "baleOf", 0, 5);
        r.due(9999, "baleOf", 1, 5);
        r.due(0, "baleOf", 2, 5);
        r.due(0, "baleOf", 2, 4);
        r.due(10099, "about", 0, 3);
    }

    // ---- promise 18

    static void baleThatIsNotThere() {
        Run r = families("18: NONE", 0);
        r.due(NONE, "baleOf", 0, 0);
        r.quills(10, 0, 0, 1, 9);
        r.many(2, "bale", 0, 1);
        for (int what = 0; what <= 5; what++) {
            for (int bale : new int[] {-1, 2, LEAST, GREATEST}) {
                r.due(NONE, "baleOf", bale, what);
            }
        }
        r.due(1, "baleOf", 0, 1);
        r.due(1, "baleOf", 1, 1);
    }

    static void whatIsAskedOfABaleFromZeroToFive() {
        Run r = families("18: what 0 FAMILY .. 5 what was PAID", 0, 1);
        r.quills(10, 1, 0, 6, 9);
        r.quills(5, 0, 0, 9, 9);
        r.make("bale", 0, 4);
        r.make("pass", 1);
        r.make("bale", 1, 3);
        r.make("bale", 1, 3);
        int[][] answers = {{0, 4, 19, 0, 0, 100}, {1, 3, 20, 1, 1, 0}, {1, 3, 20, 1, 0, 100}};
        for (int bale = 0; bale < 3; bale++) {
            for (int what = 0; what < 6; what++) {
                r.due(answers[bale][what], "baleOf", bale, what);
            }
            for (int what : new int[] {-1, 6, LEAST, GREATEST}) {
                r.due(NONE, "baleOf", bale, what);
            }
        }
    }

    static void dayOfABaleUpToTheLast() {
        Run r = families("18: 2 the DAY; I: DAYS 0 .. 3,000", 0);
        r.quills(5, 0, 0, 1, 9);
        r.goTo(3000);
        r.taken(0, "bale", 0, 1);
        r.due(3000, "baleOf", 0, 2);
    }

    // ---- promise 19

    static void familyThatIsNotThere() {
        Run r = families("19: NONE", 4, 5);
        for (int what = 0; what <= 5; what++) {
            for (int family : new int[] {-1, 2, LEAST, GREATEST}) {
                r.due(NONE, "about", family, what);
            }
        }
        r.due(4, "about", 0, 0);
        r.due(5, "about", 1, 0);
    }

    static void whatIsAskedOfAFamilyFromZeroToFive() {
        Run r = families("19: what 0 DUE .. 5 STRIPS", 1, 0);
        r.quills(11, 0, 0, 1, 9);
        r.make("bale", 0, 1);
        r.make("bale", 0, 1);
        int[] answers = {1, 1, 0, 100, 1, 11};
        for (int what = 0; what < 6; what++) {
            r.due(answers[what], "about", 0, what);
            r.due(0, "about", 1, what);
        }
        for (int what : new int[] {-1, 6, LEAST, GREATEST}) {
            r.due(NONE, "about", 0, what);
        }
    }

    static void quillsInNoBale() {
        Run r = families("19: 4 QUILLS in no BALE", 0, 0);
        r.due(0, "about", 0, 4);
        r.quills(5, 0, 0, 1, 9);
        r.quills(1, 0, 0, 3, 9);
        r.quills(1, 0, 0, 5, 9);
        r.quills(1, 0, 0, 9, 9);
        r.quills(2, 1, 0, 1, 9);
        r.due(8, "about", 0, 4);
        r.make("bale", 0, 1);
        r.due(3, "about", 0, 4);
        r.due(2, "about", 1, 4);
    }

    static void stripsOfAFamilyInQuillsToo() {
        Run r = families("19: 5 STRIPS", 0, 0);
        r.due(0, "about", 0, 5);
        r.quills(1, 0, 0, 1, 9);
        r.make("cut", 0, 0, 1, 9, 9);
        r.make("cut", 1, 0, 1, 9, 9);
        r.due(2, "about", 0, 5);
        r.due(1, "about", 1, 5);
    }

    // ---- promise 20

    static void chestThatIsNotThere() {
        Run r = families("20: NONE", 0);
        r.quills(10, 0, 0, 1, 9);
        r.due(NONE, "chest", 0, 0);
        r.many(2, "bale", 0, 1);
        for (int what = 0; what <= 2; what++) {
            for (int chest : new int[] {-1, 1, LEAST, GREATEST}) {
                r.due(NONE, "chest", chest, what);
            }
        }
        r.due(1, "chest", 0, 0);
    }

    static void whatIsAskedOfAChestFromZeroToTwo() {
        Run r = families("20: what 0 GRADE, 1 how many BALES, 2 the first of them", 0);
        r.quills(5, 0, 0, 1, 9);
        r.quills(10, 0, 0, 3, 9);
        r.make("bale", 0, 1);
        r.make("bale", 0, 2);
        r.make("bale", 0, 2);
        int[][] answers = {{1, 1, 0}, {2, 2, 1}};
        for (int chest = 0; chest < 2; chest++) {
            for (int what = 0; what < 3; what++) {
                r.due(answers[chest][what], "chest", chest, what);
            }
            for (int what : new int[] {-1, 3, LEAST, GREATEST}) {
                r.due(NONE, "chest", chest, what);
            }
        }
    }

    static void chestHoldsSixAndTheSeventhComesIntoANewOne() {
        Run r = families("IV: A CHEST holds 6 BALES; else into a new one", 0, 0);
        r.quills(35, 0, 0, 1, 9);
        r.quills(30, 1, 0, 1, 9);
        for (int i = 0; i < 13; i++) {
            r.taken(i, "bale", i % 2, 1);
            r.due(i / 6, "baleOf", i, 3);
            r.due(i / 6 + 1, "count", 5);
            r.due(i % 6 + 1, "chest", i / 6, 1);
            r.due(i / 6 * 6, "chest", i / 6, 2);
        }
    }

    static void chestIsOfOneGrade() {
        Run r = families("IV: BALES of one GRADE; the first CHEST of its GRADE that isn't full", 0);
        r.quills(40, 0, 0, 1, 9);
        r.quills(15, 0, 0, 9, 9);
        int[] grades = {4, 1, 1, 4, 1, 1, 1, 1, 1, 4, 1};
        int[] chests = {0, 1, 1, 0, 1, 1, 1, 1, 2, 0, 2};
        for (int i = 0; i < grades.length; i++) {
            r.taken(i, "bale", 0, grades[i]);
            r.due(chests[i], "baleOf", i, 3);
        }
        int[][] answers = {{4, 3, 0}, {1, 6, 1}, {1, 2, 8}};
        for (int chest = 0; chest < 3; chest++) {
            for (int what = 0; what < 3; what++) {
                r.due(answers[chest][what], "chest", chest, what);
            }
        }
    }

    // ---- promise 21

    static void shareOfNoChestOrGarden() {
        Run r = families("21: NONE", 0);
        r.make("garden", 0);
        r.quills(5, 0, 1, 1, 9);
        r.due(NONE, "share", 0, 0);
        r.make("bale", 0, 1);
        for (int chest : new int[] {-1, 1, LEAST, GREATEST}) {
            r.due(NONE, "share", chest, 1);
        }
        for (int garden : new int[] {-1, 2, LEAST, GREATEST}) {
            r.due(NONE, "share", 0, garden);
        }
        r.due(0, "share", 0, 0);
        r.due(210, "share", 0, 1);
    }

    static void shareIsOfLengthsWithTheirLaps() {
        Run r = families("IV: the LENGTHS of its STRIPS together", 0);
        r.make("garden", 0);
        for (int i = 0; i < 5; i++) {
            r.make("cut", 0, 0, 20, 1, 9);
            r.make("cut", 0, 1, 24, 1, 9);
        }
        r.make("pass", 3);
        r.many(5, "join", 0);
        r.make("bale", 0, 1);
        r.due(100, "share", 0, 0);
        r.due(120, "share", 0, 1);
    }

    static void shareIsOfOneChestAlone() {
        Run r = families("IV: of all its QUILLS", 0, 0);
        r.quills(35, 0, 0, 1, 9);
        r.quills(9, 1, 0, 9, 9);
        r.many(7, "bale", 0, 1);
        r.make("bale", 1, 4);
        r.due(1260, "share", 0, 0);
        r.due(210, "share", 1, 0);
        r.due(210, "share", 2, 0);
    }

    // ---- promise 22

    static void tracedOfNoGarden() {
        Run r = chested("22: NONE for no such GARDEN");
        for (int garden : new int[] {-1, -2, 2, LEAST, GREATEST}) {
            r.due(NONE, "traced", garden, 0, 3000);
            r.due(NONE, "traced", garden, 5, 0);
        }
        r.due(0, "traced", 0, 0, 3000);
    }

    static void tracedFromUpToTo() {
        Run r = chested("22: cut on DAYS from up to to (it, too)");
        r.due(0, "traced", 0, 5, 5);
        r.due(0, "traced", 0, 5, 6);
        r.due(0, "traced", 0, 4, 5);
        r.due(-2, "traced", 0, 4, 4);
        r.due(-2, "traced", 0, 6, 6);
        r.due(-2, "traced", 0, 0, 4);
        r.due(-2, "traced", 0, 6, 15);
        r.due(1, "traced", 0, 6, 16);
        r.due(1, "traced", 0, 16, 16);
        r.due(-2, "traced", 0, 17, 3000);
    }

    static void tracedByAnyTwoNumbers() {
        Run r = chested("22: (any two numbers)");
        r.due(0, "traced", 0, LEAST, GREATEST);
        r.due(0, "traced", 0, LEAST, 5);
        r.due(-2, "traced", 0, LEAST, 4);
        r.due(1, "traced", 0, 6, GREATEST);
        r.due(-2, "traced", 0, 17, GREATEST);
        r.due(-2, "traced", 0, GREATEST, LEAST);
        r.due(-2, "traced", 0, 6, 5);
        r.due(-2, "traced", 0, 16, 5);
        r.due(-2, "traced", 0, LEAST, LEAST);
        r.due(-2, "traced", 0, GREATEST, GREATEST);
    }

    static void tracedOnTheFirstDayAndTheLastThatCanBe() {
        Run r = families("22: cut on DAYS from up to to; I: DAYS 0 .. 3,000", 0);
        r.quills(5, 0, 0, 1, 9);
        r.goTo(2997);
        r.make("price", 1, 5);
        r.quills(5, 0, 0, 1, 6);
        r.make("bale", 0, 1);
        r.make("bale", 0, 2);
        r.due(0, "traced", 0, 0, 0);
        r.due(0, "traced", 0, -1, 0);
        r.due(-2, "traced", 0, -1, -1);
        r.due(-2, "traced", 0, 1, 2996);
        r.due(1, "traced", 0, 1, 2997);
        r.due(-2, "traced", 0, 2998, 3000);
    }

    static void tracedOnlyIntoChests() {
        Run r = families("22: -2 if none has", 0);
        r.due(-2, "traced", 0, 0, 3000);
        r.quills(4, 0, 0, 1, 9);
        r.due(-2, "traced", 0, 0, 3000);
        r.quills(1, 0, 0, 1, 9);
        r.due(-2, "traced", 0, 0, 3000);
        r.make("bale", 0, 1);
        r.due(0, "traced", 0, 0, 3000);
        r.make("garden", -1);
        r.due(-2, "traced", 1, 0, 3000);
        r.make("cut", 0, 1, 42, 1, 9);
        r.due(-2, "traced", 1, 0, 3000);
    }

    static void tracedToTheFirstChestNotTheFirstStrip() {
        Run r = families("22: The first CHEST that has a STRIP of a GARDEN", 0);
        r.quills(5, 0, 0, 9, 9);
        r.quills(5, 0, 0, 1, 9);
        r.make("bale", 0, 1);
        r.make("bale", 0, 4);
        r.due(0, "traced", 0, 0, 3000);
        r.due(1, "traced", 0, 0, 0);
    }

    static void tracedByTheFirstStripOrTheLast() {
        for (int strip : new int[] {0, 4}) {
            Run r = families("22: has a STRIP of a GARDEN", 0);
            r.make("garden", 0);
            for (int i = 0; i < 5; i++) {
                r.make("cut", 0, i == strip ? 1 : 0, 42, 1, 9);
            }
            r.make("pass", 3);
            r.many(5, "join", 0);
            r.make("bale", 0, 1);
            r.due(0, "traced", 1, 0, 0);
            r.due(42, "share", 0, 1);
            r.due(168, "share", 0, 0);
        }
    }

    static void tracedByOneStripOfAQuill() {
        Run r = families("22: has a STRIP of a GARDEN", 0);
        r.make("garden", 0);
        r.quills(4, 0, 0, 1, 9);
        r.make("cut", 0, 0, 20, 1, 9);
        r.make("pass", 1);
        r.make("cut", 0, 1, 24, 1, 9);
        r.make("pass", 3);
        r.make("join", 0);
        r.make("bale", 0, 1);
        r.due(0, "traced", 1, 4, 4);
        r.due(-2, "traced", 1, 3, 3);
        r.due(0, "traced", 0, 3, 3);
        r.due(24, "share", 0, 1);
    }

    // ---- helpers

    /** Families with these dues, and a wild garden. */
    private static Run families(String sentence, int... dues) {
        Run r = new Run(sentence);
        for (int due : dues) {
            r.make("family", due);
        }
        r.make("garden", -1);
        return r;
    }

    /** Strips of garden 0 cut on day 5, in chest 0, and on day 16, in chest 1; garden 1 has none. */
    private static Run chested(String sentence) {
        Run r = families(sentence, 0);
        r.make("garden", 0);
        r.make("pass", 5);
        r.quills(5, 0, 0, 9, 9);
        r.quills(5, 0, 0, 1, 9);
        r.make("bale", 0, 4);
        r.make("bale", 0, 1);
        return r;
    }

    /** The next bale of family 0 and grade 1, with this number, goes to dues or is paid. */
    private static void bale(Run r, int number, boolean isDue) {
        r.taken(number, "bale", 0, 1);
        r.due(isDue ? 1 : 0, "baleOf", number, 4);
        r.due(isDue ? 0 : 100, "baleOf", number, 5);
    }

    private static void owes(Run r, int family, int gave, int lacks) {
        r.due(gave, "about", family, 1);
        r.due(lacks, "about", family, 2);
    }
}
