/** Promises 12 to 16: a test for each sentence that names a bound, a refusal, or what is not there. */
public final class QuillEdgesTest {
    private static final int NONE = Run.NONE;
    private static final int LEAST = Integer.MIN_VALUE;
    private static final int GREATEST = Integer.MAX_VALUE;

    public static void main(String[] args) throws IllegalAccessException {
        Run.all(QuillEdgesTest.class);
    }

    // ---- promise 12: what a quill is

    static void joinOfNoFamily() {
        Run r = dry("12: NONE: 1", 42);
        for (int family : new int[] {-1, 2, LEAST, GREATEST}) {
            r.refused(1, "join", family);
        }
        r.taken(0, "join", 0);
    }

    static void joinWithNothingThere() {
        Run r = dry("12: 5; V: 5 there is none that can be made");
        r.refused(5, "join", 0);
        r.make("cut", 0, 0, 42, 1, 1);
        r.refused(5, "join", 0);
        r.due(0, "count", 3);
    }

    static void joinOfStripsThatAreDry() {
        Run r = dry("III: joined of DRY STRIPS");
        r.make("cut", 0, 0, 42, 3, 1);
        r.make("pass", 4);
        r.refused(5, "join", 0);
        r.due(-2, "could", 0);
        r.make("pass", 1);
        r.due(1, "could", 0);
        r.taken(0, "join", 0);
    }

    static void joinOfNoWetStripAmongDryOnes() {
        Run r = dry("III: joined of DRY STRIPS");
        r.make("cut", 0, 0, 22, 1, 1);
        r.make("cut", 0, 0, 22, 9, 9);
        r.make("cut", 0, 0, 22, 1, 1);
        r.make("pass", 3);
        r.taken(0, "join", 0);
        r.parts(0, 0, 2);
    }

    static void joinOfOneFamilysStrips() {
        Run r = dry("III: of one FAMILY");
        r.make("cut", 0, 0, 22, 1, 1);
        r.make("cut", 1, 0, 22, 1, 9);
        r.make("pass", 3);
        r.refused(5, "join", 0);
        r.refused(5, "join", 1);
        r.make("cut", 0, 0, 22, 1, 1);
        r.make("pass", 3);
        r.refused(5, "join", 1);
        r.taken(0, "join", 0);
        r.parts(0, 0, 2);
        r.due(0, "quill", 0, 0);
        r.due(-2, "strip", 1, 7);
    }

    static void joinOfStripsThatAreInNone() {
        Run r = dry("III: that aren't in one", 42);
        r.taken(0, "join", 0);
        r.refused(5, "join", 0);
        r.due(-2, "could", 0);
        r.due(1, "count", 3);
    }

    static void joinOfFourAtMost() {
        Run r = dry("III: 1 .. 4 of them", 10, 10, 10, 10, 10);
        r.make("set", 50, 0);
        r.refused(5, "join", 0);
        r.due(-2, "could", 0);
        r.due(0, "most", 0);
        r.make("set", 40, 0);
        r.due(4, "could", 0);
        r.taken(0, "join", 0);
        r.parts(0, 0, 1, 2, 3);
    }

    static void lapIsLessForEachBehindTheFirst() {
        int[][] lengths = {{42}, {20, 29}, {20, 18, 18}, {20, 15, 14, 14}};
        for (int[] some : lengths) {
            Run r = dry("III: less LAP for each behind the first", some);
            r.make("set", 42, 7);
            r.due(some.length, "could", 0);
            r.taken(0, "join", 0);
            r.due(some.length, "quill", 0, 2);
        }
    }

    static void lengthsAreJustSpan() {
        int[][] lengths = {{42}, {20, 24}, {10, 18, 18}, {10, 11, 13, 14}};
        for (int[] some : lengths) {
            Run r = dry("III: are just SPAN", some);
            for (int span : new int[] {40, 41, 43, 44}) {
                r.make("set", span, 2);
                r.refused(5, "join", 0);
                r.due(-2, "could", 0);
                r.due(0, "most", 0);
            }
            r.make("set", 42, 2);
            r.due(some.length, "could", 0);
            r.due(1, "most", 0);
            r.taken(0, "join", 0);
        }
    }

    static void shortestStrips() {
        String sentence = "II: LENGTH (1 .. 60); III: SPAN (10 .. 99)";
        int[][] lengths = {{9, 1}, {1, 9}, {8, 1, 1}, {1, 1, 8}, {7, 1, 1, 1}, {1, 1, 1, 7}, {1, 7, 1, 1}};
        for (int[] some : lengths) {
            Run r = dry(sentence, some);
            r.make("set", 10, 0);
            joinedOfAll(r, some.length);
        }
    }

    static void longestStrips() {
        String sentence = "II: LENGTH (1 .. 60); III: SPAN (10 .. 99)";
        int[][] lengths = {{60}, {60, 39}, {39, 60}, {38, 60, 1}, {1, 38, 60}, {60, 19, 19, 1}, {1, 19, 19, 60}};
        for (int[] some : lengths) {
            Run r = dry(sentence, some);
            r.make("set", some.length == 1 ? 60 : 99, 0);
            joinedOfAll(r, some.length);
        }
    }

    static void greatestLap() {
        String sentence = "III: LAP (0 .. 9), SPAN (10 .. 99)";
        int[][] shortSome = {{18, 1}, {1, 18}, {26, 1, 1}, {1, 1, 26}, {34, 1, 1, 1}, {1, 1, 1, 34}, {8, 8, 8, 13}};
        for (int[] some : shortSome) {
            Run r = dry(sentence, some);
            r.make("set", 10, 9);
            joinedOfAll(r, some.length);
        }
        int[][] longSome = {{60, 48}, {48, 60}, {60, 56, 1}, {1, 56, 60}, {60, 30, 20, 16}, {6, 1, 59, 60}};
        for (int[] some : longSome) {
            Run r = dry(sentence, some);
            r.make("set", 99, 9);
            joinedOfAll(r, some.length);
        }
    }

    // ---- promise 12: the best quill

    static void fewestStripsBeforeAnyTaste() {
        Run r = dry("III: the fewest STRIPS");
        tasted(r, 12, 9, 12, 9, 12, 9, 12, 9, 15, 8, 15, 8, 16, 8, 20, 5, 24, 5, 42, 0);
        int[][] parts = {{9}, {7, 8}, {4, 5, 6}, {0, 1, 2, 3}};
        for (int quill = 0; quill < 4; quill++) {
            r.due(quill + 1, "could", 0);
            r.taken(quill, "join", 0);
            r.parts(quill, parts[quill]);
        }
        r.due(-2, "could", 0);
        r.refused(5, "join", 0);
    }

    static void greatestTasteOfAsFew() {
        Run r = dry("III: of as few the greatest TASTE together");
        tasted(r, 42, 5, 42, 6, 42, 4);
        takenAs(r, 0, 1);
        takenAs(r, 1, 0);
        takenAs(r, 2, 2);
        r = dry("III: of as few the greatest TASTE together");
        tasted(r, 22, 3, 22, 4, 22, 5, 22, 0);
        takenAs(r, 0, 1, 2);
        takenAs(r, 1, 0, 3);
        r = dry("III: of as few the greatest TASTE together");
        tasted(r, 12, 0, 12, 9, 12, 1, 12, 9, 12, 9, 12, 0);
        takenAs(r, 0, 1, 2, 3, 4);
    }

    static void tasteIsCountedTogether() {
        Run r = dry("III: TASTE together");
        tasted(r, 20, 9, 24, 0, 21, 5, 23, 5);
        takenAs(r, 0, 2, 3);
        r.due(10, "quill", 0, 5);
        takenAs(r, 1, 0, 1);
        r.due(9, "quill", 1, 5);
    }

    static void widthIsNothingToTheBest() {
        Run r = dry("III: BEST QUILL of a FAMILY");
        r.make("cut", 0, 0, 42, 9, 5);
        r.make("cut", 0, 0, 42, 1, 5);
        r.make("pass", 11);
        takenAs(r, 0, 0);
    }

    static void lesserNumberWhereTheyFirstDiffer() {
        String sentence = "III: the one whose STRIPS, by number, have the lesser one where they first differ";
        Run r = dry(sentence);
        tasted(r, 42, 5, 42, 5);
        takenAs(r, 0, 0);
        r = dry(sentence);
        tasted(r, 20, 5, 21, 5, 23, 5, 24, 5);
        takenAs(r, 0, 0, 3);
        takenAs(r, 1, 1, 2);
        r = dry(sentence);
        tasted(r, 20, 5, 24, 5, 24, 5);
        takenAs(r, 0, 0, 1);
        r = dry(sentence);
        tasted(r, 15, 5, 10, 5, 14, 5, 17, 5, 21, 5);
        takenAs(r, 0, 0, 1, 4);
        r = dry(sentence);
        tasted(r, 15, 5, 10, 5, 21, 5, 21, 5);
        takenAs(r, 0, 0, 1, 2);
        r = dry(sentence);
        tasted(r, 12, 5, 12, 5, 12, 5, 12, 5, 12, 5);
        takenAs(r, 0, 0, 1, 2, 3);
        r = dry(sentence);
        tasted(r, 12, 5, 9, 5, 11, 5, 13, 5, 14, 5, 16, 5);
        takenAs(r, 0, 0, 1, 2, 5);
    }

    static void lesserNumberWhateverTheirTastesAlone() {
        Run r = dry("III: of these the one whose STRIPS, by number, have the lesser one");
        tasted(r, 20, 1, 21, 5, 23, 5, 24, 9);
        takenAs(r, 0, 0, 3);
        r = dry("III: of these the one whose STRIPS, by number, have the lesser one");
        tasted(r, 20, 9, 21, 5, 23, 5, 24, 1);
        takenAs(r, 0, 0, 3);
    }

    static void moreTasteBeatsALesserNumber() {
        Run r = dry("III: of as few the greatest TASTE together; of these");
        tasted(r, 20, 5, 21, 5, 23, 6, 24, 5);
        takenAs(r, 0, 1, 2);
    }

    static void theThirtiethIsLookedAtAndTheNextIsNot() {
        Run r = dry("III: Of the first 30 STRIPS that may be");
        r.many(29, "cut", 0, 0, 60, 1, 1);
        r.make("cut", 0, 0, 42, 1, 1);
        r.make("cut", 0, 0, 42, 1, 9);
        r.make("pass", 3);
        r.due(1, "could", 0);
        takenAs(r, 0, 29);
        r.due(1, "could", 0);
        takenAs(r, 1, 30);
        r = dry("III: Of the first 30 STRIPS that may be");
        r.many(30, "cut", 0, 0, 60, 1, 1);
        r.make("cut", 0, 0, 42, 1, 9);
        r.make("pass", 3);
        r.due(31, "ready", 0);
        r.due(-2, "could", 0);
        r.refused(5, "join", 0);
    }

    static void noPartOfTheThirtyFirst() {
        Run r = dry("III: Of the first 30 STRIPS that may be");
        r.many(29, "cut", 0, 0, 60, 1, 1);
        r.make("cut", 0, 0, 20, 1, 1);
        r.make("cut", 0, 0, 24, 1, 1);
        r.make("pass", 3);
        r.refused(5, "join", 0);
        r = dry("III: Of the first 30 STRIPS that may be");
        r.many(28, "cut", 0, 0, 60, 1, 1);
        r.make("cut", 0, 0, 20, 1, 1);
        r.make("cut", 0, 0, 24, 1, 1);
        r.make("pass", 3);
        r.due(2, "could", 0);
        takenAs(r, 0, 28, 29);
    }

    static void onlyStripsThatMayBeAreAmongTheThirty() {
        Run r = dry("III: the first 30 STRIPS that may be");
        r.many(10, "cut", 0, 0, 42, 1, 1);
        r.make("pass", 3);
        r.many(10, "join", 0);
        r.many(20, "cut", 0, 0, 60, 9, 1);
        r.many(20, "cut", 1, 0, 60, 1, 1);
        r.many(29, "cut", 0, 0, 60, 1, 1);
        r.make("cut", 0, 0, 42, 1, 1);
        r.make("cut", 0, 0, 42, 1, 9);
        r.make("pass", 3);
        r.due(31, "ready", 0);
        takenAs(r, 10, 79);
    }

    static void fourOfTheThirty() {
        Run r = dry("III: 1 .. 4 of them; Of the first 30 STRIPS that may be");
        r.many(2, "cut", 0, 0, 12, 1, 1);
        r.many(26, "cut", 0, 0, 60, 1, 1);
        r.many(3, "cut", 0, 0, 12, 1, 9);
        r.make("pass", 3);
        takenAs(r, 0, 0, 1, 28, 29);
    }

    static void oneHundredAndTwentyQuills() {
        Run r = dry("I: QUILLS 120; 12: 3");
        r.many(122, "cut", 0, 0, 42, 1, 5);
        r.make("pass", 3);
        for (int i = 0; i < 120; i++) {
            r.due(i, "join", 0);
        }
        r.due(0, "trouble");
        r.due(120, "count", 3);
        r.refused(3, "join", 0);
        r.due(120, "count", 3);
        r.due(-2, "strip", 120, 7);
        r.due(2, "ready", 0);
        r.due(119, "strip", 119, 7);
        r.due(1, "quill", 119, 2);
        r.due(NONE, "quill", 120, 2);
    }

    static void joinTriesWhatCanBeMadeBeforeTheRoom() {
        Run r = dry("12: NONE: 1; 5; 3");
        r.many(121, "cut", 0, 0, 42, 1, 5);
        r.make("pass", 3);
        r.many(120, "join", 0);
        r.refused(3, "join", 0);
        r.refused(5, "join", 1);
        r.refused(1, "join", 2);
        r.refused(1, "join", -1);
        r.make("set", 41, 2);
        r.refused(5, "join", 0);
    }

    // ---- promise 13

    static void couldOfNoFamily() {
        Run r = dry("13: NONE", 42);
        for (int family : new int[] {-1, 2, LEAST, GREATEST}) {
            r.due(NONE, "could", family);
        }
        r.due(1, "could", 0);
    }

    static void couldWhereThereIsNone() {
        Run r = dry("13: -2 if there is none", 41, 43);
        r.due(-2, "could", 0);
        r.due(-2, "could", 1);
    }

    static void couldJoinsNothing() {
        Run r = dry("13: Of how many STRIPS the BEST QUILL would be", 12, 12, 12, 12);
        r.due(4, "could", 0);
        r.due(4, "could", 0);
        r.due(0, "count", 3);
        r.due(4, "ready", 0);
    }

    // ---- promise 14

    static void mostOfNoFamily() {
        Run r = dry("14: NONE: 1", 42);
        for (int family : new int[] {-1, 2, LEAST, GREATEST}) {
            r.refused(1, "most", family);
        }
        r.taken(1, "most", 0);
    }

    static void mostOfNothing() {
        Run r = dry("14: MOST QUILLS of a FAMILY");
        r.taken(0, "most", 0);
        r.make("cut", 0, 0, 42, 1, 1);
        r.taken(0, "most", 0);
        r.make("pass", 3);
        r.taken(1, "most", 0);
        r.taken(0, "most", 1);
    }

    static void mostOfTwelveAtMost() {
        Run r = dry("III: if the STRIPS that may be are 12 at most; 14: 6; V: 6 too many");
        r.many(12, "cut", 0, 0, 42, 1, 1);
        r.make("pass", 3);
        r.taken(12, "most", 0);
        r.make("cut", 0, 0, 60, 1, 1);
        r.make("pass", 2);
        r.taken(12, "most", 0);
        r.make("pass", 1);
        r.refused(6, "most", 0);
        r.due(13, "ready", 0);
        r.make("join", 0);
        r.taken(11, "most", 0);
    }

    static void mostOfAsManyAsThereAreStrips() {
        Run r = dry("14: 6");
        r.many(200, "cut", 0, 0, 42, 1, 1);
        r.make("pass", 3);
        r.refused(6, "most", 0);
        r.taken(0, "most", 1);
    }

    static void onlyStripsThatMayBeAreAmongTheTwelve() {
        Run r = dry("III: if the STRIPS that may be are 12 at most");
        r.many(5, "cut", 0, 0, 42, 1, 1);
        r.make("pass", 3);
        r.many(5, "join", 0);
        r.many(5, "cut", 0, 0, 42, 9, 1);
        r.many(5, "cut", 1, 0, 42, 1, 1);
        r.many(12, "cut", 0, 0, 42, 1, 1);
        r.make("pass", 3);
        r.taken(12, "most", 0);
        r.taken(5, "most", 1);
    }

    static void mostOfEachSize() {
        int[][] sizes = {{42, 2, 12}, {22, 2, 6}, {14, 0, 4}, {12, 2, 3}};
        for (int[] size : sizes) {
            Run r = dry("III: how many can be joined at once");
            r.make("set", 42, size[1]);
            r.many(11, "cut", 0, 0, size[0], 1, 1);
            r.make("pass", 3);
            r.taken(size[2] - 1, "most", 0);
            r.make("cut", 0, 0, size[0], 1, 1);
            r.make("pass", 3);
            r.taken(size[2], "most", 0);
        }
    }

    static void noStripInTwo() {
        Run r = dry("III: no STRIP in two", 20, 24, 24);
        r.taken(1, "most", 0);
        r = dry("III: no STRIP in two", 24, 20, 20, 24);
        r.taken(2, "most", 0);
    }

    static void mostIsMoreThanTheBestOneByOne() {
        Run r = dry("III: how many can be joined at once", 14, 16, 9, 7, 8, 6);
        r.make("set", 30, 0);
        r.taken(2, "most", 0);
        r.taken(0, "join", 0);
        r.parts(0, 0, 1);
        r.taken(1, "most", 0);
        r = dry("III: how many can be joined at once", 12, 18, 5, 6, 7, 3, 4, 5);
        r.make("set", 30, 0);
        r.taken(2, "most", 0);
        r.taken(0, "join", 0);
        r.taken(0, "most", 0);
    }

    static void mostLeavesTheFirstStripOut() {
        Run r = dry("III: how many can be joined at once", 10, 12, 8, 18, 22);
        r.make("set", 30, 0);
        // 10 goes only with 12 and 8, which both are wanted by others.
        r.taken(2, "most", 0);
    }

    static void mostGoesOnBehindAQuillOfTheFirst() {
        Run r = dry("III: how many can be joined at once", 20, 24, 42);
        r.taken(2, "most", 0);
        r = dry("III: how many can be joined at once", 10, 18, 18, 42);
        r.taken(2, "most", 0);
        r = dry("III: how many can be joined at once", 20, 42, 24, 42);
        r.taken(3, "most", 0);
    }

    static void mostAsOftenAsItIsAsked() {
        Run r = dry("III: if the STRIPS that may be are 12 at most", 12, 12, 12, 12, 12, 12, 12, 12, 12, 12, 12, 12);
        for (int i = 0; i < 50; i++) {
            r.taken(3, "most", 0);
            r.taken(0, "most", 1);
        }
    }

    static void mostJoinsNothing() {
        Run r = dry("14: MOST QUILLS of a FAMILY", 42, 42);
        r.taken(2, "most", 0);
        r.taken(2, "most", 0);
        r.due(0, "count", 3);
        r.due(2, "ready", 0);
    }

    // ---- promise 15

    static void quillThatIsNotThere() {
        Run r = dry("15: NONE", 42, 42);
        r.due(NONE, "quill", 0, 0);
        r.many(2, "join", 0);
        for (int what = 0; what <= 5; what++) {
            for (int quill : new int[] {-1, 2, LEAST, GREATEST}) {
                r.due(NONE, "quill", quill, what);
            }
        }
        r.due(1, "quill", 0, 2);
        r.due(1, "quill", 1, 2);
    }

    static void whatIsAskedOfAQuillFromZeroToFive() {
        Run r = dry("15: what 0 FAMILY .. 5 TASTE together");
        r.make("cut", 1, 0, 20, 3, 9);
        r.make("cut", 1, 0, 24, 3, 8);
        r.make("pass", 5);
        r.make("join", 1);
        int[] answers = {1, 2, 2, 5, -2, 17};
        for (int what = 0; what < 6; what++) {
            r.due(answers[what], "quill", 0, what);
        }
        for (int what : new int[] {-1, 6, LEAST, GREATEST}) {
            r.due(NONE, "quill", 0, what);
        }
    }

    static void baleOfAQuill() {
        Run r = dry("15: 4 its BALE (-2)");
        r.quills(6, 0, 0, 1, 9);
        r.due(-2, "quill", 0, 4);
        r.make("bale", 0, 1);
        r.due(0, "quill", 0, 4);
        r.due(0, "quill", 4, 4);
        r.due(-2, "quill", 5, 4);
    }

    static void dayAQuillWasJoined() {
        Run r = dry("15: 3 the DAY it was joined", 42, 42);
        r.make("join", 0);
        r.goTo(3000);
        r.make("join", 0);
        r.due(3, "quill", 0, 3);
        r.due(3000, "quill", 1, 3);
    }

    static void gradeOneToWidthTwoAndTasteSeven() {
        String sentence = "III: 1 if its widest STRIP has a WIDTH of 2 at most and its TASTES are 7 at least each";
        graded(sentence, 1, 1, 9);
        graded(sentence, 1, 2, 7);
        graded(sentence, 2, 3, 7);
        graded(sentence, 2, 2, 6);
    }

    static void gradeTwoToWidthFourAndTasteFour() {
        String sentence = "III: else 2 if 4 at most and 4 at least";
        graded(sentence, 2, 4, 4);
        graded(sentence, 2, 4, 9);
        graded(sentence, 2, 1, 4);
        graded(sentence, 3, 5, 4);
        graded(sentence, 3, 4, 3);
        graded(sentence, 3, 5, 9);
    }

    static void gradeThreeToWidthSix() {
        String sentence = "III: else 3 if 6 at most; else 4";
        graded(sentence, 3, 6, 0);
        graded(sentence, 3, 6, 9);
        graded(sentence, 3, 1, 0);
        graded(sentence, 3, 1, 3);
        graded(sentence, 4, 7, 9);
        graded(sentence, 4, 7, 0);
        graded(sentence, 4, 9, 0);
    }

    static void gradeIsByTheWidestAndByEachTaste() {
        String sentence = "III: its widest STRIP; its TASTES each";
        graded(sentence, 1, 2, 9, 1, 7);
        graded(sentence, 2, 3, 9, 1, 9);
        graded(sentence, 2, 1, 9, 3, 9);
        graded(sentence, 2, 1, 6, 1, 9);
        graded(sentence, 2, 1, 9, 1, 6);
        graded(sentence, 2, 4, 9, 1, 4);
        graded(sentence, 3, 1, 9, 5, 9);
        graded(sentence, 3, 1, 3, 1, 9);
        graded(sentence, 4, 1, 9, 7, 9);
        graded(sentence, 4, 7, 9, 1, 9);
        graded(sentence, 1, 1, 9, 1, 9, 1, 9, 2, 7);
        graded(sentence, 2, 1, 9, 1, 9, 1, 6, 1, 9);
        graded(sentence, 4, 1, 9, 7, 9, 1, 9, 1, 9);
    }

    // ---- promise 16

    static void partOfNoQuill() {
        Run r = dry("16: NoSuchElementException if there is none such", 42);
        r.thrown("part", 0, 0);
        r.make("join", 0);
        r.due(0, "part", 0, 0);
        for (int quill : new int[] {-1, 1, LEAST, GREATEST}) {
            r.thrown("part", quill, 0);
        }
    }

    static void partBeyondItsStrips() {
        int[][] lengths = {{42}, {20, 24}, {10, 18, 18}, {10, 11, 13, 14}};
        for (int[] some : lengths) {
            Run r = dry("16: The k-th STRIP of a QUILL", some);
            r.make("join", 0);
            r.due(0, "part", 0, 0);
            r.due(some.length - 1, "part", 0, some.length - 1);
            for (int k : new int[] {-1, some.length, 4, LEAST, GREATEST}) {
                r.thrown("part", 0, k);
            }
        }
    }

    static void partsByNumber() {
        Run r = dry("16: by number", 60, 14, 60, 13, 11, 60, 10);
        takenAs(r, 0, 1, 3, 4, 6);
    }

    static void partLeavesTrouble() {
        Run r = dry("16: NoSuchElementException; V: the latest call that may be refused", 42);
        r.refused(1, "join", 7);
        r.thrown("part", 0, 0);
        r.due(1, "trouble");
        r.taken(0, "join", 0);
        r.thrown("part", 0, 1);
        r.due(0, "trouble");
    }

    // ---- helpers

    /** Two families, a wild garden, and dry strips of family 0 of these lengths. */
    private static Run dry(String sentence, int... lengths) {
        Run r = new Run(sentence);
        r.many(2, "family", 0);
        r.make("garden", -1);
        for (int length : lengths) {
            r.make("cut", 0, 0, length, 1, 5);
        }
        if (lengths.length > 0) {
            r.make("pass", 3);
        }
        return r;
    }

    /** Dry strips of family 0, a length and a taste each. */
    private static void tasted(Run r, int... lengthsAndTastes) {
        for (int i = 0; i + 1 < lengthsAndTastes.length; i += 2) {
            r.make("cut", 0, 0, lengthsAndTastes[i], 1, lengthsAndTastes[i + 1]);
        }
        r.make("pass", 3);
    }

    private static void takenAs(Run r, int quill, int... parts) {
        r.taken(quill, "join", 0);
        r.parts(quill, parts);
    }

    /** All strips go into one quill, and no fewer make one. */
    private static void joinedOfAll(Run r, int strips) {
        r.due(strips, "could", 0);
        r.taken(1, "most", 0);
        r.taken(0, "join", 0);
        for (int k = 0; k < strips; k++) {
            r.due(k, "part", 0, k);
        }
        r.due(0, "ready", 0);
    }

    /** The grade of a quill of strips with these widths and tastes. */
    private static void graded(String sentence, int grade, int... widthsAndTastes) {
        Run r = dry(sentence);
        int strips = widthsAndTastes.length / 2;
        r.make("set", 12 * strips, 0);
        for (int i = 0; i < strips; i++) {
            r.make("cut", 0, 0, 12, widthsAndTastes[2 * i], widthsAndTastes[2 * i + 1]);
        }
        r.make("pass", 11);
        r.taken(0, "join", 0);
        r.due(strips, "quill", 0, 2);
        r.due(grade, "quill", 0, 1);
    }
}
