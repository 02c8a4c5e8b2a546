/** Promises 23 and 24: counts on both sides of their bounds, and the trouble of each call that may be refused. */
public final class TroubleEdgesTest {
    private static final int NONE = Run.NONE;
    private static final int LEAST = Integer.MIN_VALUE;
    private static final int GREATEST = Integer.MAX_VALUE;

    public static void main(String[] args) throws IllegalAccessException {
        Run.all(TroubleEdgesTest.class);
    }

    // ---- promise 23

    static void countFromZeroToSeven() {
        Run r = new Run("23: NONE for others");
        for (int what : new int[] {-1, 8, LEAST, GREATEST}) {
            r.due(NONE, "count", what);
        }
        richState(r);
        int[] answers = {2, 3, 14, 11, 2, 2, 75, 1};
        for (int what = 0; what < 8; what++) {
            r.due(answers[what], "count", what);
        }
        for (int what : new int[] {-1, 8, LEAST, GREATEST}) {
            r.due(NONE, "count", what);
        }
    }

    static void todayAtFirstAndAtLast() {
        Run r = new Run("I: DAYS 0 .. 3,000 (TODAY 0 at first)");
        r.due(0, "count", 6);
        r.goTo(3000);
        r.due(3000, "count", 6);
    }

    static void yearsOfSixtyDays() {
        Run r = new Run("I: a YEAR has 60 DAYS (DAY 0 .. 59 are YEAR 0); 23: 7 THIS YEAR");
        r.due(0, "count", 7);
        r.make("pass", 1);
        r.due(0, "count", 7);
        for (int year = 1; year <= 50; year++) {
            r.goTo(60 * year - 1);
            r.due(year - 1, "count", 7);
            r.make("pass", 1);
            r.due(year, "count", 7);
        }
    }

    static void all512Calls() {
        Run r = new Run("An object is used for at most 512 calls after it has been made");
        r.make("family", 0);
        r.make("garden", 0);
        r.many(200, "cut", 0, 0, 42, 1, 9);
        r.make("pass", 3);
        r.many(120, "join", 0);
        r.many(24, "bale", 0, 1);
        for (int i = 0; i < 164; i++) {
            r.due(1, "could", 0);
        }
        r.due(4, "count", 5);
    }

    // ---- promise 24

    static void troubleOfANewObject() {
        Run r = new Run("V: 0 it wasn't");
        r.due(0, "trouble");
        r.due(0, "trouble");
    }

    static void troubleIsOfTheLatestCall() {
        Run r = new Run("V: TROUBLE of the latest call that may be refused");
        r.refused(2, "family", 21);
        r.due(2, "trouble");
        r.refused(1, "garden", 0);
        r.taken(0, "family", 0);
        r.refused(5, "join", 0);
        r.refused(1, "join", 1);
        r.taken(0, "garden", 0);
        r.refused(2, "set", 9, 0);
        r.taken(0, "most", 0);
    }

    /** Each call that may be refused puts TROUBLE to 0 when it is not, whatever it was. */
    static void eachTakenCallEndsTrouble() {
        String sentence = "V: 0 it wasn't";
        taken(sentence, 0, "family", 0);
        taken(sentence, 0, "garden", -1);
        taken(sentence, 1, "set", 42, 2);
        taken(sentence, 1, "price", 1, 100);
        taken(sentence, 1, "rain", 1, 1);
        taken(sentence, 1, "rain", 1, 0);
        taken(sentence, 1, "pass", 1);
        Run r = new Run(sentence);
        richState(r);
        r.refused(2, "pass", 0);
        r.taken(14, "cut", 0, 0, 42, 1, 9);
        r.refused(2, "pass", 0);
        r.taken(1, "most", 0);
        r.make("pass", 3);
        r.refused(2, "pass", 0);
        r.taken(11, "join", 0);
        r.quills(4, 0, 0, 1, 9);
        r.refused(2, "pass", 0);
        r.taken(2, "bale", 0, 1);
    }

    static void eachNumberOfTrouble() {
        Run r = new Run("V: 0 .. 6");
        r.make("family", 0);
        r.make("family", 0);
        r.make("garden", 0);
        r.refused(1, "join", 2);
        r.refused(2, "pass", 201);
        r.refused(4, "cut", 1, 0, 1, 1, 1);
        r.refused(5, "join", 0);
        r.many(13, "cut", 0, 0, 1, 1, 1);
        r.make("pass", 3);
        r.refused(6, "most", 0);
        r.many(6, "family", 0);
        r.refused(3, "family", 0);
        r.taken(4, "pass", 1);
    }

    static void callsThatOnlyAskLeaveTroubleAndAll() {
        Run r = new Run("V: TROUBLE of the latest call that may be refused");
        richState(r);
        r.taken(76, "pass", 1);
        r.leavesAll(ASKS);
        r.refused(1, "join", 9);
        r.leavesAll(ASKS);
    }

    static void callsThatOnlyAskInVainLeaveTroubleAndAll() {
        Run r = new Run("V: TROUBLE of the latest call that may be refused");
        richState(r);
        r.taken(76, "pass", 1);
        r.leavesAll(VAIN_ASKS);
        r.refused(2, "pass", 0);
        r.leavesAll(VAIN_ASKS);
    }

    private static final Run.Call[] ASKS = {
        new Run.Call("strip", 0, 6), new Run.Call("strip", 0, 7), new Run.Call("ready", 0), new Run.Call("dryOn", 0),
        new Run.Call("could", 0), new Run.Call("could", 1), new Run.Call("quill", 0, 1), new Run.Call("part", 0, 0),
        new Run.Call("baleOf", 0, 5), new Run.Call("about", 0, 4), new Run.Call("chest", 0, 1),
        new Run.Call("share", 0, 0), new Run.Call("traced", 0, 0, 3000), new Run.Call("count", 7)};

    private static final Run.Call[] VAIN_ASKS = {
        new Run.Call("strip", -1, 0), new Run.Call("strip", 0, 8), new Run.Call("ready", 2), new Run.Call("dryOn", -1),
        new Run.Call("could", 2), new Run.Call("quill", 99, 0), new Run.Call("quill", 0, 6), new Run.Call("part", 0, 4),
        new Run.Call("part", -1, 0), new Run.Call("baleOf", 9, 0), new Run.Call("baleOf", 0, -1),
        new Run.Call("about", -1, 0), new Run.Call("about", 0, 6), new Run.Call("chest", 2, 0),
        new Run.Call("chest", 0, 3), new Run.Call("share", 0, 3), new Run.Call("share", 2, 0),
        new Run.Call("traced", 3, 0, 3000), new Run.Call("traced", 0, 1, 0), new Run.Call("count", 8)};

    // ---- helpers

    /** The call is taken behind one that is refused. */
    private static void taken(String sentence, int want, String name, int... a) {
        Run r = new Run(sentence);
        r.refused(2, "pass", 0);
        r.taken(want, name, a);
    }

    /** Some of everything, on day 75. */
    private static void richState(Run r) {
        r.make("family", 2);
        r.make("family", 0);
        r.make("garden", 0);
        r.make("garden", -1);
        r.make("garden", 1);
        r.quills(6, 0, 0, 1, 9);
        r.quills(5, 1, 1, 9, 9);
        r.make("bale", 0, 1);
        r.make("bale", 1, 4);
        r.make("cut", 0, 1, 20, 1, 5);
        r.make("cut", 0, 0, 24, 1, 5);
        r.make("cut", 1, 2, 30, 1, 5);
        r.make("rain", 70, 1);
        r.make("rain", 78, 1);
        r.goTo(75);
    }
}
