/** Promises 1 to 11: a test for each sentence that names a bound, a refusal, or what is not there. */
public final class StripEdgesTest {
    private static final int NONE = Run.NONE;
    private static final int LEAST = Integer.MIN_VALUE;
    private static final int GREATEST = Integer.MAX_VALUE;

    public static void main(String[] args) throws IllegalAccessException {
        Run.all(StripEdgesTest.class);
    }

    // ---- promise 1

    static void newObjectHasNothing() {
        Run r = new Run("1: No FAMILIES, no GARDENS");
        for (int what = 0; what <= 7; what++) {
            r.due(0, "count", what);
        }
        for (int i : new int[] {-1, 0, 1, LEAST, GREATEST}) {
            r.due(NONE, "strip", i, 0);
            r.due(NONE, "ready", i);
            r.due(NONE, "dryOn", i);
            r.due(NONE, "could", i);
            r.due(NONE, "quill", i, 0);
            r.due(NONE, "baleOf", i, 0);
            r.due(NONE, "about", i, 0);
            r.due(NONE, "chest", i, 0);
            r.due(NONE, "share", i, i);
            r.due(NONE, "traced", i, 0, 3000);
            r.thrown("part", i, 0);
        }
        r.due(0, "trouble");
    }

    static void newObjectRefusesWhatWantsAFamily() {
        Run r = new Run("1: No FAMILIES, no GARDENS; V: 1 there is none such");
        for (int i : new int[] {-1, 0, LEAST, GREATEST}) {
            r.refused(1, "cut", i, i, 1, 1, 1);
            r.refused(1, "join", i);
            r.refused(1, "most", i);
            r.refused(1, "bale", i, 1);
        }
        r.refused(1, "garden", 0);
    }

    // ---- promise 2

    static void dueFromZeroToTwenty() {
        Run r = new Run("IV: its DUE (0 .. 20 BALES a YEAR); 2: NONE: 2");
        for (int due : new int[] {-1, 21, LEAST, GREATEST}) {
            r.refused(2, "family", due);
        }
        r.taken(0, "family", 0);
        r.taken(1, "family", 20);
        r.due(0, "about", 0, 0);
        r.due(20, "about", 1, 0);
        for (int due : new int[] {-1, 21, LEAST, GREATEST}) {
            r.refused(2, "family", due);
        }
        r.due(2, "count", 0);
    }

    static void eightFamilies() {
        Run r = new Run("I: FAMILIES 8; 2: 3");
        for (int i = 0; i < 8; i++) {
            r.taken(i, "family", 8 - i);
        }
        r.refused(3, "family", 0);
        r.refused(3, "family", 20);
        r.due(8, "count", 0);
        for (int i = 0; i < 8; i++) {
            r.due(8 - i, "about", i, 0);
        }
        r.due(NONE, "about", 8, 0);
    }

    static void familyTriesTheDueBeforeTheRoom() {
        Run r = new Run("2: NONE: 2; 3");
        r.many(8, "family", 1);
        r.refused(2, "family", -1);
        r.refused(2, "family", 21);
        r.refused(3, "family", 1);
    }

    // ---- promise 3

    static void gardenWantsAFamilyThatIsThere() {
        Run r = new Run("3: NONE: 1");
        r.refused(1, "garden", 0);
        r.many(3, "family", 0);
        r.taken(0, "garden", 0);
        r.taken(1, "garden", 2);
        for (int family : new int[] {3, 8, LEAST, GREATEST}) {
            r.refused(1, "garden", family);
        }
        r.due(2, "count", 1);
    }

    static void minusOneIsWildAndMinusTwoIsNone() {
        Run r = new Run("3: (-1: WILD)");
        r.taken(0, "garden", -1);
        r.refused(1, "garden", -2);
        r.many(8, "family", 0);
        r.taken(1, "garden", -1);
        r.refused(1, "garden", -2);
    }

    static void twelveGardens() {
        Run r = new Run("I: GARDENS 12; 3: 3");
        r.make("family", 0);
        for (int i = 0; i < 12; i++) {
            r.taken(i, "garden", i % 2 == 0 ? 0 : -1);
        }
        r.refused(3, "garden", 0);
        r.refused(3, "garden", -1);
        r.due(12, "count", 1);
        r.taken(0, "cut", 0, 11, 1, 1, 1);
        r.refused(1, "cut", 0, 12, 1, 1, 1);
    }

    static void gardenTriesTheFamilyBeforeTheRoom() {
        Run r = new Run("3: NONE: 1; 3");
        r.make("family", 0);
        r.many(12, "garden", 0);
        r.refused(1, "garden", 1);
        r.refused(1, "garden", -2);
        r.refused(3, "garden", 0);
    }

    static void onlyItsFamilyCutsInAGarden() {
        Run r = new Run("II: A GARDEN is let to a FAMILY; V: 4 it may not");
        r.many(8, "family", 0);
        r.make("garden", 7);
        r.make("garden", 0);
        for (int family = 0; family < 7; family++) {
            r.refused(4, "cut", family, 0, 1, 1, 1);
            r.refused(4, "cut", family + 1, 1, 1, 1, 1);
        }
        r.taken(0, "cut", 7, 0, 1, 1, 1);
        r.taken(1, "cut", 0, 1, 1, 1, 1);
    }

    static void anyFamilyCutsInTheWild() {
        Run r = new Run("II: or WILD (any may cut there)");
        r.make("garden", -1);
        for (int family = 0; family < 8; family++) {
            r.make("family", 0);
            r.taken(family, "cut", family, 0, 1, 1, 1);
        }
    }

    // ---- promise 4

    static void spanAndLapAtFirst() {
        Run r = withStrips("III: LAP (2 at first), SPAN (42 at first)", 42);
        r.due(1, "could", 0);
        r = withStrips("III: SPAN (42 at first)", 41, 43);
        r.due(-2, "could", 0);
        r = withStrips("III: LAP (2 at first)", 22, 22);
        r.due(2, "could", 0);
        r = withStrips("III: LAP (2 at first)", 22, 21);
        r.due(-2, "could", 0);
    }

    static void spanFromTen() {
        Run r = withStrips("III: SPAN (10 .. 99)", 10, 9);
        r.refused(2, "set", 9, 0);
        r.refused(2, "set", LEAST, 0);
        r.refused(2, "set", -10, 0);
        r.due(-2, "could", 0);
        r.taken(1, "set", 10, 0);
        r.due(1, "could", 0);
        r.refused(2, "set", 9, 0);
        r.taken(0, "join", 0);
        r.parts(0, 0);
    }

    static void spanToNinetyNine() {
        Run r = withStrips("III: SPAN (10 .. 99)", 60, 39, 40);
        r.refused(2, "set", 100, 0);
        r.refused(2, "set", GREATEST, 0);
        r.due(-2, "could", 0);
        r.taken(1, "set", 99, 0);
        r.refused(2, "set", 100, 0);
        r.taken(0, "join", 0);
        r.parts(0, 0, 1);
    }

    static void lapFromZeroToNine() {
        Run r = withStrips("III: LAP (0 .. 9)", 30, 30, 30, 30);
        r.taken(1, "set", 60, 0);
        r.due(2, "could", 0);
        for (int lap : new int[] {-1, 10, LEAST, GREATEST}) {
            r.refused(2, "set", 60, lap);
        }
        r.taken(1, "set", 51, 9);
        r.due(2, "could", 0);
        for (int lap : new int[] {-1, 10, LEAST, GREATEST}) {
            r.refused(2, "set", 51, lap);
        }
        r.taken(0, "join", 0);
        r.taken(1, "set", 60, 0);
        r.taken(1, "join", 0);
    }

    static void refusedSetTakesNeitherNumber() {
        Run r = withStrips("4: false (2)", 22, 22, 50, 58);
        r.refused(2, "set", 50, 10);
        r.refused(2, "set", 58, -1);
        r.refused(2, "set", 9, 0);
        r.refused(2, "set", 100, 9);
        r.refused(2, "set", 9, 10);
        r.taken(0, "join", 0);
        r.parts(0, 0, 1);
    }

    static void quillsThatAreMadeStay() {
        Run r = withStrips("4: (QUILLS that are made stay)", 22, 22, 42);
        r.make("join", 0);
        r.make("join", 0);
        r.taken(1, "set", 99, 9);
        r.parts(0, 2);
        r.parts(1, 0, 1);
        r.due(0, "ready", 0);
    }

    // ---- promise 5

    static void gradesFromOneToFour() {
        Run r = new Run("5: false: 1");
        quillsOfAllGrades(r);
        for (int grade : new int[] {0, 5, -1, LEAST, GREATEST}) {
            r.refused(1, "price", grade, 7);
        }
        for (int grade = 1; grade <= 4; grade++) {
            r.taken(1, "price", grade, 10 * grade);
        }
        for (int grade = 1; grade <= 4; grade++) {
            r.taken(grade - 1, "bale", 0, grade);
            r.due(10 * grade, "baleOf", grade - 1, 5);
        }
    }

    static void pricesFromZeroTo9999() {
        Run r = new Run("IV: PRICE (0 .. 9,999); 5: 2");
        quillsOfAllGrades(r);
        for (int grade = 1; grade <= 4; grade++) {
            for (int pence : new int[] {-1, 10000, LEAST, GREATEST}) {
                r.refused(2, "price", grade, pence);
            }
        }
        r.taken(1, "price", 1, 0);
        r.taken(1, "price", 2, 9999);
        r.refused(2, "price", 1, 10000);
        r.refused(2, "price", 2, -1);
        r.make("bale", 0, 1);
        r.make("bale", 0, 2);
        r.due(0, "baleOf", 0, 5);
        r.due(0, "baleOf", 0, 4);
        r.due(9999, "baleOf", 1, 5);
        r.due(9999, "about", 0, 3);
    }

    static void pricesAtFirst() {
        Run r = new Run("IV: PRICE (100 at first)");
        quillsOfAllGrades(r);
        for (int grade = 1; grade <= 4; grade++) {
            r.make("bale", 0, grade);
            r.due(100, "baleOf", grade - 1, 5);
            r.due(100 * grade, "about", 0, 3);
        }
    }

    static void priceTriesTheGradeBeforeTheNumber() {
        Run r = new Run("5: false: 1; 2");
        r.refused(1, "price", 0, -1);
        r.refused(1, "price", 5, 10000);
        r.refused(2, "price", 1, -1);
        r.refused(2, "price", 4, 10000);
    }

    // ---- promise 6

    static void rainFromTomorrow() {
        Run r = new Run("6: A DAY to come (TODAY + 1 .. 3,000); false (2)");
        r.make("family", 0);
        r.make("garden", 0);
        r.make("cut", 0, 0, 1, 1, 1);
        for (int day : new int[] {0, -1, LEAST}) {
            r.refused(2, "rain", day, 1);
            r.refused(2, "rain", day, 0);
        }
        r.taken(1, "rain", 1, 1);
        r.due(4, "dryOn", 0);
        r.make("pass", 2);
        for (int day : new int[] {2, 1, 0}) {
            r.refused(2, "rain", day, 1);
            r.refused(2, "rain", day, 0);
        }
        r.taken(1, "rain", 3, 1);
        r.due(5, "dryOn", 0);
    }

    static void rainUpToDay3000() {
        Run r = new Run("6: A DAY to come (TODAY + 1 .. 3,000); false (2)");
        r.make("family", 0);
        r.make("garden", 0);
        r.goTo(2997);
        r.make("cut", 0, 0, 1, 1, 1);
        for (int day : new int[] {3001, 3002, GREATEST}) {
            r.refused(2, "rain", day, 1);
            r.refused(2, "rain", day, 0);
        }
        r.due(3000, "dryOn", 0);
        r.taken(1, "rain", 3000, 1);
        r.due(-2, "dryOn", 0);
        r.goTo(2999);
        r.taken(1, "rain", 3000, 0);
        r.due(3000, "dryOn", 0);
        r.make("pass", 1);
        r.refused(2, "rain", 3000, 1);
        r.refused(2, "rain", 3001, 1);
    }

    static void rainIsToldOrTakenBack() {
        Run r = new Run("6: has RAIN, or none: true");
        r.make("family", 0);
        r.make("garden", 0);
        r.make("cut", 0, 0, 1, 1, 1);
        r.taken(1, "rain", 2, 0);
        r.due(3, "dryOn", 0);
        r.taken(1, "rain", 2, 1);
        r.taken(1, "rain", 2, 1);
        r.due(4, "dryOn", 0);
        r.taken(1, "rain", 2, 0);
        r.due(3, "dryOn", 0);
    }

    static void rainIsOfOneDayAlone() {
        Run r = new Run("6: A DAY has RAIN");
        r.make("family", 0);
        r.make("garden", 0);
        r.make("cut", 0, 0, 1, 1, 1);
        r.make("rain", 4, 1);
        r.due(3, "dryOn", 0);
        r.make("rain", 3, 1);
        r.due(5, "dryOn", 0);
        r.make("rain", 1, 1);
        r.due(6, "dryOn", 0);
    }

    // ---- promise 7

    static void lengthFromOneToSixty() {
        Run r = gardened("II: LENGTH (1 .. 60); 7: 2");
        for (int length : new int[] {0, -1, 61, LEAST, GREATEST}) {
            r.refused(2, "cut", 0, 0, length, 1, 1);
        }
        r.taken(0, "cut", 0, 0, 1, 1, 1);
        r.taken(1, "cut", 0, 0, 60, 1, 1);
        r.due(1, "strip", 0, 2);
        r.due(60, "strip", 1, 2);
    }

    static void widthFromOneToNine() {
        Run r = gardened("II: WIDTH (1 .. 9); 7: 2");
        for (int width : new int[] {0, -1, 10, LEAST, GREATEST}) {
            r.refused(2, "cut", 0, 0, 1, width, 1);
        }
        r.taken(0, "cut", 0, 0, 1, 1, 1);
        r.taken(1, "cut", 0, 0, 1, 9, 1);
        r.due(1, "strip", 0, 3);
        r.due(9, "strip", 1, 3);
    }

    static void tasteFromZeroToNine() {
        Run r = gardened("II: TASTE (0 .. 9); 7: 2");
        for (int taste : new int[] {-1, 10, LEAST, GREATEST}) {
            r.refused(2, "cut", 0, 0, 1, 1, taste);
        }
        r.taken(0, "cut", 0, 0, 1, 1, 0);
        r.taken(1, "cut", 0, 0, 1, 1, 9);
        r.due(0, "strip", 0, 4);
        r.due(9, "strip", 1, 4);
    }

    static void cutWantsAFamilyAndAGarden() {
        Run r = new Run("7: NONE: 1");
        r.many(2, "family", 0);
        r.many(3, "garden", -1);
        for (int family : new int[] {-1, 2, LEAST, GREATEST}) {
            r.refused(1, "cut", family, 0, 1, 1, 1);
        }
        for (int garden : new int[] {-1, -2, 3, LEAST, GREATEST}) {
            r.refused(1, "cut", 0, garden, 1, 1, 1);
        }
        r.taken(0, "cut", 1, 2, 1, 1, 1);
        r.taken(1, "cut", 0, 0, 1, 1, 1);
    }

    static void twoHundredStrips() {
        Run r = gardened("I: STRIPS 200; 7: 3");
        for (int i = 0; i < 200; i++) {
            r.due(i, "cut", 0, 0, 1 + i % 60, 1, 1);
        }
        r.due(0, "trouble");
        r.refused(3, "cut", 0, 0, 1, 1, 1);
        r.refused(3, "cut", 0, 1, 60, 9, 9);
        r.due(200, "count", 2);
        r.due(20, "strip", 199, 2);
        r.due(NONE, "strip", 200, 2);
        r.due(200, "about", 0, 5);
    }

    static void cutTriesWhatIsThereFirst() {
        Run r = gardened("7: NONE: 1; 2; 4; 3");
        r.make("family", 0);
        r.refused(1, "cut", 2, 0, 0, 1, 1);
        r.refused(1, "cut", 0, 2, 1, 10, 1);
        r.refused(1, "cut", -1, 0, 1, 1, 1);
        r.refused(1, "cut", 2, 0, 1, 1, 1);
        r.refused(1, "cut", 1, 2, 1, 1, -1);
    }

    static void cutTriesTheNumbersBeforeWhoMay() {
        Run r = gardened("7: NONE: 1; 2; 4; 3");
        r.make("family", 0);
        r.refused(2, "cut", 1, 0, 0, 1, 1);
        r.refused(2, "cut", 1, 0, 61, 1, 1);
        r.refused(2, "cut", 1, 0, 1, 0, 1);
        r.refused(2, "cut", 1, 0, 1, 10, 1);
        r.refused(2, "cut", 1, 0, 1, 1, -1);
        r.refused(2, "cut", 1, 0, 1, 1, 10);
        r.refused(4, "cut", 1, 0, 1, 1, 1);
    }

    static void cutTriesTheRoomLast() {
        Run r = gardened("7: NONE: 1; 2; 4; 3");
        r.make("family", 0);
        r.many(200, "cut", 0, 0, 1, 1, 1);
        r.refused(1, "cut", 2, 0, 1, 1, 1);
        r.refused(1, "cut", 0, 2, 1, 1, 1);
        r.refused(2, "cut", 0, 0, 61, 1, 1);
        r.refused(2, "cut", 0, 0, 1, 0, 1);
        r.refused(2, "cut", 0, 0, 1, 1, 10);
        r.refused(4, "cut", 1, 0, 1, 1, 1);
        r.refused(3, "cut", 0, 0, 1, 1, 1);
    }

    // ---- promise 8

    static void passFromOneToTwoHundred() {
        Run r = gardened("8: So many DAYS go (1 .. 200); NONE: 2");
        r.make("cut", 0, 0, 1, 1, 1);
        for (int days : new int[] {0, -1, 201, LEAST, GREATEST}) {
            r.refused(2, "pass", days);
        }
        r.due(0, "count", 6);
        r.taken(1, "pass", 1);
        r.taken(201, "pass", 200);
        r.due(201, "count", 6);
        for (int days : new int[] {0, -1, 201, LEAST, GREATEST}) {
            r.refused(2, "pass", days);
        }
    }

    static void passNotBeyondDay3000() {
        Run r = gardened("8: (also beyond 3,000); I: DAYS 0 .. 3,000");
        r.make("family", 3);
        r.goTo(2801);
        r.refused(2, "pass", 200);
        r.taken(2999, "pass", 198);
        r.refused(2, "pass", 2);
        r.refused(2, "pass", 200);
        r.refused(2, "pass", GREATEST);
        r.taken(3000, "pass", 1);
        r.refused(2, "pass", 1);
        r.refused(2, "pass", 0);
        r.refused(2, "pass", GREATEST);
        r.due(3000, "count", 6);
    }

    static void passToDay3000AtOnce() {
        Run r = new Run("8: (also beyond 3,000); I: DAYS 0 .. 3,000");
        r.goTo(2800);
        r.refused(2, "pass", 201);
        r.taken(3000, "pass", 200);
    }

    // ---- promise 9

    static void stripThatIsNotThere() {
        Run r = gardened("9: NONE");
        r.due(NONE, "strip", 0, 0);
        r.many(2, "cut", 0, 0, 5, 6, 7);
        for (int what = 0; what <= 7; what++) {
            r.due(NONE, "strip", -1, what);
            r.due(NONE, "strip", 2, what);
            r.due(NONE, "strip", LEAST, what);
            r.due(NONE, "strip", GREATEST, what);
        }
        r.due(5, "strip", 0, 2);
        r.due(5, "strip", 1, 2);
    }

    static void whatIsAskedOfAStripFromZeroToSeven() {
        Run r = gardened("9: what 0 FAMILY .. 7 its QUILL");
        r.make("family", 0);
        r.make("pass", 4);
        r.make("cut", 1, 1, 5, 6, 7);
        int[] answers = {1, 1, 5, 6, 7, 4, 0, -2};
        for (int what = 0; what < 8; what++) {
            r.due(answers[what], "strip", 0, what);
        }
        for (int what : new int[] {-1, 8, LEAST, GREATEST}) {
            r.due(NONE, "strip", 0, what);
        }
    }

    static void stripIsCutToday() {
        Run r = gardened("II: cut TODAY; 9: 5 the DAY it was cut");
        r.make("cut", 0, 0, 1, 1, 1);
        r.goTo(3000);
        r.make("cut", 0, 0, 1, 1, 1);
        r.due(0, "strip", 0, 5);
        r.due(3000, "strip", 1, 5);
    }

    static void quillOfAStrip() {
        Run r = withStrips("9: 7 its QUILL (-2)", 42, 41);
        r.due(-2, "strip", 0, 7);
        r.make("join", 0);
        r.due(0, "strip", 0, 7);
        r.due(-2, "strip", 1, 7);
    }

    static void dryWhenWidthAndTwoDaysHaveGone() {
        for (int width = 1; width <= 9; width++) {
            Run r = gardened("II: DRY when so many DAYS have gone by as its WIDTH is and two more");
            r.make("pass", 3);
            r.make("cut", 0, 0, 1, width, 1);
            for (int days = 0; days < width + 2; days++) {
                r.due(0, "strip", 0, 6);
                r.due(0, "ready", 0);
                r.make("pass", 1);
            }
            r.due(1, "strip", 0, 6);
            r.due(1, "ready", 0);
            r.make("pass", 200);
            r.due(1, "strip", 0, 6);
        }
    }

    static void rainOnTheDayOfCuttingIsNothing() {
        Run r = gardened("II: the DAYS behind that one");
        r.make("rain", 2, 1);
        r.make("pass", 2);
        r.make("cut", 0, 0, 1, 1, 1);
        r.due(5, "dryOn", 0);
        r.make("pass", 2);
        r.due(0, "strip", 0, 6);
        r.make("pass", 1);
        r.due(1, "strip", 0, 6);
    }

    static void todayCountsIfItIsDryWeather() {
        Run r = gardened("II: TODAY counts if it is dry weather");
        r.make("cut", 0, 0, 1, 1, 1);
        r.make("rain", 3, 1);
        r.make("rain", 4, 1);
        r.make("pass", 3);
        r.due(0, "strip", 0, 6);
        r.make("pass", 1);
        r.due(0, "strip", 0, 6);
        r.make("pass", 1);
        r.due(1, "strip", 0, 6);
    }

    static void dryStaysDryInRain() {
        Run r = gardened("II: so many DAYS without RAIN have gone by");
        r.make("cut", 0, 0, 1, 1, 1);
        r.make("pass", 3);
        r.make("rain", 4, 1);
        r.make("pass", 1);
        r.due(1, "strip", 0, 6);
        r.due(3, "dryOn", 0);
    }

    static void rainBeforeTheCutIsNothing() {
        Run r = gardened("II: the DAYS behind that one, up to TODAY");
        for (int day = 1; day <= 5; day++) {
            r.make("rain", day, 1);
        }
        r.make("rain", 9, 1);
        r.make("pass", 5);
        r.make("cut", 0, 0, 1, 1, 1);
        r.due(8, "dryOn", 0);
        r.make("pass", 3);
        r.due(1, "strip", 0, 6);
    }

    // ---- promise 10

    static void readyOfNoFamily() {
        Run r = withStrips("10: NONE", 42);
        r.make("family", 0);
        for (int family : new int[] {-1, 2, LEAST, GREATEST}) {
            r.due(NONE, "ready", family);
        }
        r.due(1, "ready", 0);
        r.due(0, "ready", 1);
    }

    static void readyAreDryAndInNoQuill() {
        Run r = gardened("10: DRY and in no QUILL");
        r.make("cut", 0, 0, 42, 1, 1);
        r.make("cut", 0, 0, 41, 1, 1);
        r.make("cut", 0, 0, 41, 2, 1);
        r.make("pass", 2);
        r.due(0, "ready", 0);
        r.make("pass", 1);
        r.due(2, "ready", 0);
        r.make("join", 0);
        r.due(1, "ready", 0);
        r.make("pass", 1);
        r.due(2, "ready", 0);
    }

    static void readyUpToAllStrips() {
        Run r = gardened("10: How many STRIPS; I: STRIPS 200");
        r.many(200, "cut", 0, 0, 1, 1, 1);
        r.make("pass", 3);
        r.due(200, "ready", 0);
    }

    // ---- promise 11

    static void dryOnOfNoStrip() {
        Run r = gardened("11: NONE");
        r.due(NONE, "dryOn", 0);
        r.make("cut", 0, 0, 1, 1, 1);
        for (int strip : new int[] {-1, 1, LEAST, GREATEST}) {
            r.due(NONE, "dryOn", strip);
        }
        r.due(3, "dryOn", 0);
    }

    static void dryOnIsOrWas() {
        for (int width = 1; width <= 9; width++) {
            Run r = gardened("11: on which a STRIP is (or was) DRY");
            r.make("cut", 0, 0, 42, width, 1);
            r.due(width + 2, "dryOn", 0);
            r.goTo(width + 2);
            r.due(width + 2, "dryOn", 0);
            r.make("pass", 1);
            r.due(width + 2, "dryOn", 0);
            r.make("join", 0);
            r.due(width + 2, "dryOn", 0);
        }
    }

    static void dryOnDay3000OrBeyond() {
        for (int width = 1; width <= 9; width++) {
            Run r = gardened("11: -2 if that is beyond 3,000");
            r.goTo(3000 - width - 2);
            r.make("cut", 0, 0, 1, width, 1);
            r.make("pass", 1);
            r.make("cut", 0, 0, 1, width, 1);
            r.due(3000, "dryOn", 0);
            r.due(-2, "dryOn", 1);
            r.goTo(3000);
            r.due(3000, "dryOn", 0);
            r.due(1, "strip", 0, 6);
            r.due(-2, "dryOn", 1);
            r.due(0, "strip", 1, 6);
            r.due(1, "ready", 0);
        }
    }

    static void dryOnIsPutBeyondDay3000ByRain() {
        Run r = gardened("11: by RAIN as it is told; -2 if that is beyond 3,000");
        r.goTo(2997);
        r.make("cut", 0, 0, 1, 1, 1);
        for (int day = 2998; day <= 3000; day++) {
            r.make("rain", day, 1);
            r.due(-2, "dryOn", 0);
            r.make("rain", day, 0);
            r.due(3000, "dryOn", 0);
        }
        r.make("rain", 2998, 1);
        r.goTo(3000);
        r.due(0, "strip", 0, 6);
        r.due(-2, "dryOn", 0);
        r.make("cut", 0, 0, 1, 1, 1);
        r.due(-2, "dryOn", 1);
    }

    // ---- helpers

    /** A family with a garden of its own, 0, and a wild one, 1. */
    private static Run gardened(String sentence) {
        Run r = new Run(sentence);
        r.make("family", 0);
        r.make("garden", 0);
        r.make("garden", -1);
        return r;
    }

    /** Dry strips of these lengths. */
    private static Run withStrips(String sentence, int... lengths) {
        Run r = gardened(sentence);
        for (int length : lengths) {
            r.make("cut", 0, 0, length, 1, 1);
        }
        r.make("pass", 3);
        return r;
    }

    private static void quillsOfAllGrades(Run r) {
        r.make("family", 0);
        r.make("garden", 0);
        r.quills(5, 0, 0, 2, 7);
        r.quills(5, 0, 0, 4, 4);
        r.quills(5, 0, 0, 6, 0);
        r.quills(5, 0, 0, 9, 9);
    }
}
