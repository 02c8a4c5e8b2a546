import java.util.NoSuchElementException;

/** One method for each promise of the document: ordinary inputs, edges, and wrong inputs. */
public final class PromisesTest {
    private static final int NONE = -1;
    private static int wrong = 0;
    private static int checked = 0;
    private static int promise = 0;

    public static void main(String[] args) {
        newObject();
        family();
        garden();
        set();
        price();
        rain();
        cut();
        cutRoom();
        pass();
        strip();
        ready();
        dryOn();
        join();
        joinLooksAtThirty();
        joinRoom();
        could();
        most();
        mostAgainstGreed();
        quill();
        part();
        bale();
        baleOf();
        about();
        dues();
        chest();
        share();
        traced();
        count();
        trouble();
        System.out.println(checked + " answers looked at, " + wrong + " not as due");
        if (wrong != 0) {
            System.exit(1);
        }
    }

    // ---- promises 1 to 8

    private static void newObject() {
        promise = 1;
        CinnamonPeelers x = new CinnamonPeelers();
        for (int what = 0; what <= 7; what++) {
            due("count(" + what + ")", x.count(what), 0);
        }
        due("trouble", x.trouble(), 0);
        due("about", x.about(0, 0), NONE);
        due("strip", x.strip(0, 0), NONE);
        due("ready", x.ready(0), NONE);
        due("quill", x.quill(0, 0), NONE);
        due("baleOf", x.baleOf(0, 0), NONE);
        due("chest", x.chest(0, 0), NONE);
        due("share", x.share(0, 0), NONE);
        due("traced", x.traced(0, 0, 0), NONE);
    }

    private static void family() {
        promise = 2;
        CinnamonPeelers x = new CinnamonPeelers();
        refused(x, "due -1", x.family(-1), 2);
        refused(x, "due 21", x.family(21), 2);
        refused(x, "due least", x.family(Integer.MIN_VALUE), 2);
        for (int i = 0; i < 8; i++) {
            taken(x, "family " + i, x.family(i == 0 ? 0 : i == 1 ? 20 : i), i);
        }
        due("due 0", x.about(0, 0), 0);
        due("due 20", x.about(1, 0), 20);
        refused(x, "a ninth, wrong due", x.family(21), 2);
        refused(x, "a ninth", x.family(3), 3);
        due("families", x.count(0), 8);
    }

    private static void garden() {
        promise = 3;
        CinnamonPeelers x = new CinnamonPeelers();
        refused(x, "of no family", x.garden(0), 1);
        refused(x, "of family -2", x.garden(-2), 1);
        taken(x, "wild", x.garden(-1), 0);
        x.family(0);
        for (int i = 1; i < 12; i++) {
            taken(x, "garden " + i, x.garden(0), i);
        }
        refused(x, "of no family, and full", x.garden(1), 1);
        refused(x, "full", x.garden(0), 3);
        refused(x, "wild, full", x.garden(-1), 3);
        due("gardens", x.count(1), 12);
    }

    private static void set() {
        promise = 4;
        CinnamonPeelers x = new CinnamonPeelers();
        int[][] bad = {{9, 0}, {100, 0}, {42, -1}, {42, 10}, {Integer.MAX_VALUE, 3}, {3, Integer.MIN_VALUE}};
        for (int[] b : bad) {
            due("set", x.set(b[0], b[1]) ? 1 : 0, 0);
            due("its trouble", x.trouble(), 2);
        }
        int[][] good = {{10, 0}, {99, 9}, {42, 2}};
        for (int[] g : good) {
            due("set", x.set(g[0], g[1]) ? 1 : 0, 1);
            due("its trouble", x.trouble(), 0);
        }
        x.family(0);
        x.garden(0);
        cutMany(x, 0, 0, 1, 42, 1, 5);
        cutMany(x, 0, 0, 1, 10, 1, 5);
        cutMany(x, 0, 0, 2, 30, 1, 5);
        x.pass(3);
        x.join(0);
        x.set(10, 9);
        due("a quill stays", x.quill(0, 2), 1);
        due("by the new span", x.join(0), 1);
        due("its strip", x.part(1, 0), 1);
        x.set(51, 9);
        due("by the new lap", x.join(0), 2);
        due("two strips", x.quill(2, 2), 2);
        x.set(42, 2);
        x.set(100, 2);
        cutMany(x, 0, 0, 1, 42, 1, 5);
        x.pass(3);
        due("a refused set changes nothing", x.could(0), 1);
    }

    private static void price() {
        promise = 5;
        CinnamonPeelers x = new CinnamonPeelers();
        int[][] bad = {{0, 5, 1}, {5, 5, 1}, {-1, 5, 1}, {Integer.MIN_VALUE, 5, 1}, {0, -1, 1}, {1, -1, 2}, {4, 10000, 2}};
        for (int[] b : bad) {
            due("price", x.price(b[0], b[1]) ? 1 : 0, 0);
            due("its trouble", x.trouble(), b[2]);
        }
        for (int grade = 1; grade <= 4; grade++) {
            due("price", x.price(grade, grade == 1 ? 0 : grade == 4 ? 9999 : grade) ? 1 : 0, 1);
            due("its trouble", x.trouble(), 0);
        }
        x.family(0);
        x.garden(0);
        makeQuills(x, 0, 0, 5, 1, 9);
        makeQuills(x, 0, 0, 5, 9, 9);
        x.bale(0, 1);
        x.bale(0, 4);
        due("paid for grade 1", x.baleOf(0, 5), 0);
        due("paid for grade 4", x.baleOf(1, 5), 9999);
        due("paid in all", x.about(0, 3), 9999);
        x.price(4, 1);
        due("what was paid stays", x.baleOf(1, 5), 9999);
    }

    private static void rain() {
        promise = 6;
        CinnamonPeelers x = new CinnamonPeelers();
        x.family(0);
        x.garden(-1);
        x.cut(0, 0, 10, 1, 1);
        int[] bad = {0, -1, 3001, Integer.MIN_VALUE, Integer.MAX_VALUE};
        for (int day : bad) {
            due("rain(" + day + ")", x.rain(day, true) ? 1 : 0, 0);
            due("its trouble", x.trouble(), 2);
        }
        due("rain(1)", x.rain(1, true) ? 1 : 0, 1);
        due("its trouble", x.trouble(), 0);
        due("rain(3000)", x.rain(3000, true) ? 1 : 0, 1);
        due("later", x.dryOn(0), 4);
        due("told twice", x.rain(1, true) ? 1 : 0, 1);
        due("as late", x.dryOn(0), 4);
        due("no rain", x.rain(1, false) ? 1 : 0, 1);
        due("sooner", x.dryOn(0), 3);
        x.pass(5);
        due("today", x.rain(5, true) ? 1 : 0, 0);
        due("past", x.rain(3, false) ? 1 : 0, 0);
        due("tomorrow", x.rain(6, true) ? 1 : 0, 1);
    }

    private static void cut() {
        promise = 7;
        CinnamonPeelers x = new CinnamonPeelers();
        x.family(0);
        x.family(0);
        x.garden(0);
        x.garden(-1);
        refused(x, "no family", x.cut(2, 0, 1, 1, 1), 1);
        refused(x, "no family -1", x.cut(-1, 1, 1, 1, 1), 1);
        refused(x, "no garden", x.cut(0, 2, 1, 1, 1), 1);
        refused(x, "no garden -1", x.cut(0, -1, 1, 1, 1), 1);
        refused(x, "1 before 2", x.cut(0, 2, 0, 1, 1), 1);
        int[][] bad = {{0, 1, 1}, {61, 1, 1}, {1, 0, 1}, {1, 10, 1}, {1, 1, -1}, {1, 1, 10}};
        for (int[] b : bad) {
            refused(x, "a number", x.cut(0, 0, b[0], b[1], b[2]), 2);
        }
        refused(x, "2 before 4", x.cut(1, 0, 0, 1, 1), 2);
        refused(x, "let to another", x.cut(1, 0, 1, 1, 1), 4);
        due("none is there", x.count(2), 0);
        taken(x, "least", x.cut(0, 0, 1, 1, 0), 0);
        taken(x, "greatest", x.cut(1, 1, 60, 9, 9), 1);
        taken(x, "in the wild", x.cut(0, 1, 60, 9, 9), 2);
    }

    private static void cutRoom() {
        CinnamonPeelers x = new CinnamonPeelers();
        x.family(0);
        x.family(0);
        x.garden(0);
        for (int i = 0; i < 200; i++) {
            taken(x, "strip " + i, x.cut(0, 0, 5, 1, 1), i);
        }
        refused(x, "full", x.cut(0, 0, 5, 1, 1), 3);
        refused(x, "4 before 3", x.cut(1, 0, 5, 1, 1), 4);
        refused(x, "2 before 3", x.cut(0, 0, 61, 1, 1), 2);
        refused(x, "1 before 3", x.cut(0, 1, 5, 1, 1), 1);
        due("strips", x.count(2), 200);
        x.pass(3);
        due("all are ready", x.ready(0), 200);
    }

    private static void pass() {
        promise = 8;
        CinnamonPeelers x = new CinnamonPeelers();
        int[] bad = {0, -1, 201, Integer.MIN_VALUE, Integer.MAX_VALUE};
        for (int days : bad) {
            refused(x, "pass(" + days + ")", x.pass(days), 2);
        }
        taken(x, "one day", x.pass(1), 1);
        for (int i = 1; i <= 14; i++) {
            taken(x, "200 days", x.pass(200), 1 + 200 * i);
        }
        refused(x, "beyond the last", x.pass(200), 2);
        due("today stays", x.count(6), 2801);
        taken(x, "to the last", x.pass(199), 3000);
        due("the last year", x.count(7), 50);
        refused(x, "beyond it", x.pass(1), 2);
        due("no day to come", x.rain(3001, true) ? 1 : 0, 0);
        due("nor this", x.rain(3000, true) ? 1 : 0, 0);
    }

    // ---- promises 9 to 11

    private static void strip() {
        promise = 9;
        CinnamonPeelers x = new CinnamonPeelers();
        x.family(0);
        x.family(0);
        x.garden(0);
        x.garden(1);
        x.pass(7);
        x.cut(1, 1, 42, 3, 4);
        int[] dueNow = {1, 1, 42, 3, 4, 7, 0, -2};
        for (int what = 0; what < 8; what++) {
            due("strip(0, " + what + ")", x.strip(0, what), dueNow[what]);
        }
        due("what -1", x.strip(0, -1), NONE);
        due("what 8", x.strip(0, 8), NONE);
        due("strip 1", x.strip(1, 0), NONE);
        due("strip -1", x.strip(-1, 0), NONE);
        x.pass(4);
        due("a day too soon", x.strip(0, 6), 0);
        x.pass(1);
        due("dry", x.strip(0, 6), 1);
        x.join(1);
        due("its quill", x.strip(0, 7), 0);
        due("still dry", x.strip(0, 6), 1);
    }

    private static void ready() {
        promise = 10;
        CinnamonPeelers x = new CinnamonPeelers();
        x.family(0);
        x.family(0);
        x.garden(-1);
        due("no family", x.ready(2), NONE);
        due("family -1", x.ready(-1), NONE);
        x.cut(0, 0, 42, 1, 1);
        x.cut(0, 0, 41, 2, 1);
        x.cut(1, 0, 41, 9, 1);
        due("none", x.ready(0), 0);
        x.pass(3);
        due("one", x.ready(0), 1);
        x.pass(1);
        due("two", x.ready(0), 2);
        x.join(0);
        due("one is in a quill", x.ready(0), 1);
        x.rain(5, true);
        x.pass(7);
        due("rain today and before", x.ready(1), 0);
        x.pass(1);
        due("eleven dry days", x.ready(1), 1);
    }

    private static void dryOn() {
        promise = 11;
        CinnamonPeelers x = new CinnamonPeelers();
        x.family(0);
        x.garden(0);
        due("no strip", x.dryOn(0), NONE);
        due("strip -1", x.dryOn(-1), NONE);
        x.cut(0, 0, 1, 1, 1);
        x.cut(0, 0, 1, 9, 1);
        due("width 1", x.dryOn(0), 3);
        due("width 9", x.dryOn(1), 11);
        x.rain(3, true);
        due("rain ahead", x.dryOn(0), 4);
        x.pass(200);
        due("it was dry then", x.dryOn(0), 4);
        for (int i = 0; i < 13; i++) {
            x.pass(200);
        }
        x.pass(189);
        x.cut(0, 0, 1, 9, 1);
        due("on the last day", x.dryOn(2), 3000);
        x.rain(3000, true);
        due("rain on the last day", x.dryOn(2), -2);
        x.rain(3000, false);
        x.rain(2995, true);
        due("rain before it", x.dryOn(2), -2);
        x.pass(11);
        due("not dry on the last day", x.strip(2, 6), 0);
        x.cut(0, 0, 1, 1, 1);
        due("cut on the last day", x.dryOn(3), -2);
    }

    // ---- promises 12 to 16

    private static void join() {
        promise = 12;
        CinnamonPeelers x = new CinnamonPeelers();
        x.family(0);
        x.family(0);
        x.garden(-1);
        refused(x, "no family", x.join(2), 1);
        refused(x, "family -1", x.join(-1), 1);
        refused(x, "no strips", x.join(0), 5);
        cutMany(x, 1, 0, 1, 42, 1, 9);
        refused(x, "not dry", x.join(1), 5);
        x.pass(3);
        refused(x, "of another family", x.join(0), 5);
        taken(x, "one strip", x.join(1), 0);
        refused(x, "it is in a quill", x.join(1), 5);

        // The fewest win over the best.
        x.cut(0, 0, 22, 1, 9);
        x.cut(0, 0, 22, 1, 9);
        x.cut(0, 0, 42, 1, 0);
        x.pass(3);
        taken(x, "the fewest", x.join(0), 1);
        partsAre(x, 1, 3);
        // Of as few the greatest taste together, then the lesser numbers where they first differ.
        x.cut(0, 0, 20, 1, 5);
        x.cut(0, 0, 24, 1, 5);
        x.cut(0, 0, 24, 1, 9);
        x.cut(0, 0, 20, 1, 9);
        x.cut(0, 0, 24, 1, 9);
        x.pass(3);
        taken(x, "of two, taste 18", x.join(0), 2);
        partsAre(x, 2, 1, 2);
        taken(x, "of two, taste 18", x.join(0), 3);
        partsAre(x, 3, 6, 7);
        taken(x, "of two, taste 14", x.join(0), 4);
        partsAre(x, 4, 4, 8);
        refused(x, "no more", x.join(0), 5);
        // The lesser number decides where they first differ, whatever comes behind it.
        x.set(30, 0);
        x.cut(0, 0, 12, 1, 3);
        x.cut(0, 0, 13, 1, 3);
        x.cut(0, 0, 17, 1, 3);
        x.cut(0, 0, 18, 1, 3);
        x.pass(3);
        taken(x, "9 and 12 before 10 and 11", x.join(0), 5);
        partsAre(x, 5, 9, 12);
        // Four strips at most.
        x.set(50, 0);
        cutMany(x, 1, 0, 5, 10, 1, 1);
        x.pass(3);
        refused(x, "five strips would be wanted", x.join(1), 5);
        x.set(40, 0);
        taken(x, "four strips", x.join(1), 6);
        partsAre(x, 6, 13, 14, 15, 16);
        // The shortest and the longest strips.
        x.set(60, 1);
        x.cut(1, 0, 1, 1, 1);
        x.cut(1, 0, 60, 1, 1);
        x.pass(3);
        taken(x, "one strip is fewer", x.join(1), 7);
        partsAre(x, 7, 19);
        x.cut(1, 0, 60, 1, 1);
        x.set(59, 2);
        x.pass(3);
        taken(x, "1 and 60", x.join(1), 8);
        partsAre(x, 8, 18, 20);
    }

    private static void joinLooksAtThirty() {
        CinnamonPeelers x = new CinnamonPeelers();
        x.family(0);
        x.garden(0);
        cutMany(x, 0, 0, 30, 60, 1, 1);
        cutMany(x, 0, 0, 1, 42, 1, 9);
        x.pass(3);
        refused(x, "the 31st is not looked at", x.join(0), 5);
        due("nor here", x.could(0), -2);
        x.set(60, 0);
        x.join(0);
        x.set(42, 2);
        taken(x, "it is the 30th now", x.join(0), 1);
        partsAre(x, 1, 30);
    }

    private static void joinRoom() {
        CinnamonPeelers x = new CinnamonPeelers();
        x.family(0);
        x.garden(0);
        cutMany(x, 0, 0, 121, 42, 1, 5);
        x.pass(3);
        for (int i = 0; i < 120; i++) {
            taken(x, "quill " + i, x.join(0), i);
        }
        refused(x, "full", x.join(0), 3);
        due("the strip is in none", x.strip(120, 7), -2);
        due("it could be", x.could(0), 1);
        due("most", x.most(0), 1);
        x.set(41, 2);
        refused(x, "5 before 3", x.join(0), 5);
        refused(x, "1 before 3", x.join(1), 1);
        due("quills", x.count(3), 120);
    }

    private static void could() {
        promise = 13;
        CinnamonPeelers x = new CinnamonPeelers();
        x.family(0);
        x.garden(0);
        due("no family", x.could(1), NONE);
        due("family -1", x.could(-1), NONE);
        due("no strips", x.could(0), -2);
        cutMany(x, 0, 0, 4, 12, 1, 1);
        due("not dry", x.could(0), -2);
        x.pass(3);
        due("of four", x.could(0), 4);
        cutMany(x, 0, 0, 1, 22, 1, 1);
        x.pass(3);
        due("of three", x.could(0), 3);
        cutMany(x, 0, 0, 1, 32, 1, 1);
        x.pass(3);
        due("of two", x.could(0), 2);
        cutMany(x, 0, 0, 1, 42, 1, 1);
        x.pass(3);
        due("of one", x.could(0), 1);
        due("nothing is joined", x.count(3), 0);
    }

    private static void most() {
        promise = 14;
        CinnamonPeelers x = new CinnamonPeelers();
        x.family(0);
        x.family(0);
        x.garden(-1);
        refused(x, "no family", x.most(2), 1);
        refused(x, "family -1", x.most(-1), 1);
        taken(x, "no strips", x.most(0), 0);
        cutMany(x, 0, 0, 12, 42, 1, 1);
        cutMany(x, 1, 0, 12, 12, 1, 1);
        taken(x, "none dry", x.most(0), 0);
        x.pass(3);
        taken(x, "twelve of one", x.most(0), 12);
        taken(x, "three of four", x.most(1), 3);
        x.cut(0, 0, 1, 9, 1);
        taken(x, "a wet thirteenth", x.most(0), 12);
        x.pass(11);
        refused(x, "a dry thirteenth", x.most(0), 6);
        x.join(0);
        taken(x, "twelve again", x.most(0), 11);
        due("nothing more is joined", x.count(3), 1);
        x.set(52, 2);
        taken(x, "five would be wanted", x.most(1), 0);
    }

    /** Joining the best quill first makes one quill here, though two can be made at once. */
    private static void mostAgainstGreed() {
        CinnamonPeelers x = new CinnamonPeelers();
        x.family(0);
        x.garden(0);
        x.set(30, 0);
        int[] lengths = {14, 16, 8, 8, 7, 7};
        for (int length : lengths) {
            x.cut(0, 0, length, 1, 1);
        }
        x.pass(3);
        due("14 + 8 + 8 and 16 + 7 + 7", x.most(0), 2);
        x.join(0);
        due("14 + 16 leaves 8 + 8 + 7 + 7", x.most(0), 1);
        CinnamonPeelers y = new CinnamonPeelers();
        y.family(0);
        y.garden(0);
        y.set(30, 0);
        int[] others = {14, 16, 9, 7, 8, 6};
        for (int length : others) {
            y.cut(0, 0, length, 1, 1);
        }
        y.pass(3);
        due("14 + 9 + 7 and 16 + 8 + 6", y.most(0), 2);
    }

    private static void quill() {
        promise = 15;
        CinnamonPeelers x = new CinnamonPeelers();
        x.family(0);
        x.family(0);
        x.garden(-1);
        x.cut(1, 0, 20, 2, 7);
        x.cut(1, 0, 24, 1, 8);
        x.pass(9);
        x.join(1);
        int[] dueNow = {1, 1, 2, 9, -2, 15};
        for (int what = 0; what < 6; what++) {
            due("quill(0, " + what + ")", x.quill(0, what), dueNow[what]);
        }
        due("what -1", x.quill(0, -1), NONE);
        due("what 6", x.quill(0, 6), NONE);
        due("quill 1", x.quill(1, 0), NONE);
        due("quill -1", x.quill(-1, 0), NONE);
        int[][] widthTasteGrade = {
            {2, 7, 1}, {1, 9, 1}, {3, 7, 2}, {2, 6, 2}, {4, 4, 2}, {5, 9, 3}, {4, 3, 3}, {1, 0, 3}, {6, 0, 3},
            {6, 9, 3}, {7, 9, 4}, {9, 0, 4}};
        for (int[] g : widthTasteGrade) {
            x.cut(0, 0, 42, g[0], g[1]);
            x.pass(11);
            int made = x.join(0);
            due("grade of width " + g[0] + ", taste " + g[1], x.quill(made, 1), g[2]);
        }
        // The widest and the least tasty strip decide, each for itself.
        x.cut(0, 0, 20, 4, 9);
        x.cut(0, 0, 24, 1, 4);
        x.pass(11);
        due("grade of two", x.quill(x.join(0), 1), 2);
        x.cut(0, 0, 20, 1, 9);
        x.cut(0, 0, 24, 2, 6);
        x.pass(11);
        due("grade of two", x.quill(x.join(0), 1), 2);
        x.cut(0, 0, 20, 7, 9);
        x.cut(0, 0, 24, 1, 9);
        x.pass(11);
        due("grade of two", x.quill(x.join(0), 1), 4);
    }

    private static void part() {
        promise = 16;
        CinnamonPeelers x = new CinnamonPeelers();
        x.family(0);
        x.garden(0);
        due("no quill", noSuchPart(x, 0, 0), 1);
        cutMany(x, 0, 0, 1, 50, 1, 1);
        cutMany(x, 0, 0, 4, 12, 1, 1);
        x.pass(3);
        x.join(0);
        partsAre(x, 0, 1, 2, 3, 4);
        due("part -1", noSuchPart(x, 0, -1), 1);
        due("part 4", noSuchPart(x, 0, 4), 1);
        due("part least", noSuchPart(x, 0, Integer.MIN_VALUE), 1);
        due("quill -1", noSuchPart(x, -1, 0), 1);
        due("quill 1", noSuchPart(x, 1, 0), 1);
    }

    // ---- promises 17 to 22

    private static void bale() {
        promise = 17;
        CinnamonPeelers x = new CinnamonPeelers();
        x.family(0);
        x.family(0);
        x.garden(-1);
        refused(x, "no family", x.bale(2, 1), 1);
        refused(x, "family -1", x.bale(-1, 1), 1);
        refused(x, "grade 0", x.bale(0, 0), 1);
        refused(x, "grade 5", x.bale(0, 5), 1);
        refused(x, "no quills", x.bale(0, 1), 5);
        makeQuills(x, 0, 0, 4, 1, 9);
        makeQuills(x, 1, 0, 4, 1, 9);
        makeQuills(x, 0, 0, 4, 9, 9);
        refused(x, "four of each", x.bale(0, 1), 5);
        refused(x, "four of each", x.bale(1, 1), 5);
        makeQuills(x, 0, 0, 2, 1, 9);
        taken(x, "a bale", x.bale(0, 1), 0);
        int[] inIt = {0, 1, 2, 3, 12};
        for (int i : inIt) {
            due("bale of quill " + i, x.quill(i, 4), 0);
        }
        int[] notInIt = {4, 8, 13};
        for (int i : notInIt) {
            due("bale of quill " + i, x.quill(i, 4), -2);
        }
        refused(x, "one is left", x.bale(0, 1), 5);
        makeQuills(x, 0, 0, 4, 1, 9);
        taken(x, "another", x.bale(0, 1), 1);
        due("the one that was left", x.quill(13, 4), 1);
    }

    private static void baleOf() {
        promise = 18;
        CinnamonPeelers x = new CinnamonPeelers();
        x.family(0);
        x.family(1);
        x.garden(-1);
        makeQuills(x, 1, 0, 10, 5, 1);
        x.pass(2);
        x.bale(1, 3);
        x.pass(1);
        x.price(3, 77);
        x.bale(1, 3);
        int[] first = {1, 3, 15, 0, 1, 0};
        int[] second = {1, 3, 16, 0, 0, 77};
        for (int what = 0; what < 6; what++) {
            due("baleOf(0, " + what + ")", x.baleOf(0, what), first[what]);
            due("baleOf(1, " + what + ")", x.baleOf(1, what), second[what]);
        }
        due("what -1", x.baleOf(0, -1), NONE);
        due("what 6", x.baleOf(0, 6), NONE);
        due("bale 2", x.baleOf(2, 0), NONE);
        due("bale -1", x.baleOf(-1, 0), NONE);
    }

    private static void about() {
        promise = 19;
        CinnamonPeelers x = new CinnamonPeelers();
        x.family(7);
        x.family(0);
        x.garden(-1);
        makeQuills(x, 1, 0, 7, 1, 9);
        makeQuills(x, 1, 0, 3, 9, 9);
        cutMany(x, 1, 0, 2, 5, 1, 1);
        x.bale(1, 1);
        int[] first = {7, 0, 0, 0, 0, 0};
        int[] second = {0, 0, 0, 100, 5, 12};
        for (int what = 0; what < 6; what++) {
            due("about(0, " + what + ")", x.about(0, what), first[what]);
            due("about(1, " + what + ")", x.about(1, what), second[what]);
        }
        due("what -1", x.about(0, -1), NONE);
        due("what 6", x.about(0, 6), NONE);
        due("family 2", x.about(2, 0), NONE);
        due("family -1", x.about(-1, 0), NONE);
    }

    private static void dues() {
        CinnamonPeelers x = new CinnamonPeelers();
        x.family(2);
        x.garden(0);
        makeQuills(x, 0, 0, 40, 1, 9);
        x.bale(0, 1);
        due("gave", x.about(0, 1), 1);
        due("lacks", x.about(0, 2), 0);
        x.pass(59 - x.count(6));
        due("the year's last day", x.about(0, 1), 1);
        x.pass(1);
        due("a year begins: gave", x.about(0, 1), 0);
        due("a year begins: lacks", x.about(0, 2), 1);
        x.family(20);
        x.pass(180);
        due("three more: lacks", x.about(0, 2), 7);
        due("three: another's lacks", x.about(1, 2), 60);
        x.pass(1);
        for (int i = 1; i <= 7; i++) {
            due("bale", x.bale(0, 1), i);
            due("what lacks is less", x.about(0, 2), Math.max(0, 7 - i));
            due("to dues", x.baleOf(i, 4), 1);
        }
        due("nothing is given of this year's", x.about(0, 1), 0);
        makeQuills(x, 0, 0, 15, 1, 9);
        x.bale(0, 1);
        x.bale(0, 1);
        due("gave two", x.about(0, 1), 2);
        due("nothing is paid", x.about(0, 3), 0);
        x.bale(0, 1);
        due("the third is paid", x.about(0, 3), 100);
        due("gave two", x.about(0, 1), 2);
        due("not to dues", x.baleOf(10, 4), 0);
    }

    private static void chest() {
        promise = 20;
        CinnamonPeelers x = new CinnamonPeelers();
        x.family(0);
        x.family(0);
        x.garden(-1);
        due("no chest", x.chest(0, 0), NONE);
        makeQuills(x, 0, 0, 30, 1, 9);
        makeQuills(x, 1, 0, 5, 9, 9);
        makeQuills(x, 1, 0, 10, 1, 9);
        x.bale(1, 4);
        for (int i = 0; i < 5; i++) {
            x.bale(0, 1);
        }
        x.bale(1, 1);
        due("chests", x.count(5), 2);
        due("six are in one, of any family", x.chest(1, 1), 6);
        x.bale(0, 1);
        due("a new one", x.count(5), 3);
        x.bale(1, 1);
        int[][] dueNow = {{4, 1, 0}, {1, 6, 1}, {1, 2, 7}};
        for (int i = 0; i < 3; i++) {
            for (int what = 0; what < 3; what++) {
                due("chest(" + i + ", " + what + ")", x.chest(i, what), dueNow[i][what]);
            }
        }
        due("what -1", x.chest(0, -1), NONE);
        due("what 3", x.chest(0, 3), NONE);
        due("chest 3", x.chest(3, 0), NONE);
        due("chest -1", x.chest(-1, 0), NONE);
    }

    private static void share() {
        promise = 21;
        CinnamonPeelers x = new CinnamonPeelers();
        x.family(0);
        x.garden(-1);
        x.garden(0);
        x.garden(0);
        for (int i = 0; i < 5; i++) {
            x.cut(0, 0, 20, 1, 9);
            x.cut(0, 1, 24, 1, 9);
        }
        x.cut(0, 1, 42, 1, 1);
        x.pass(3);
        for (int i = 0; i < 6; i++) {
            x.join(0);
        }
        due("no chest yet", x.share(0, 0), NONE);
        x.bale(0, 1);
        due("of garden 0", x.share(0, 0), 100);
        due("of garden 1", x.share(0, 1), 120);
        due("of garden 2", x.share(0, 2), 0);
        due("no garden", x.share(0, 3), NONE);
        due("garden -1", x.share(0, -1), NONE);
        due("no chest", x.share(1, 0), NONE);
        due("chest -1", x.share(-1, 0), NONE);
        makeQuills(x, 0, 2, 5, 9, 1);
        x.bale(0, 4);
        due("in another chest", x.share(1, 2), 210);
        due("not in this", x.share(0, 2), 0);
    }

    private static void traced() {
        promise = 22;
        CinnamonPeelers x = new CinnamonPeelers();
        x.family(0);
        x.garden(-1);
        x.garden(0);
        due("no garden", x.traced(2, 0, 0), NONE);
        due("garden -1", x.traced(-1, 0, 0), NONE);
        due("no chest", x.traced(0, 0, 3000), -2);
        x.pass(10);
        makeQuills(x, 0, 0, 5, 9, 1);
        due("in no bale", x.traced(0, 0, 3000), -2);
        int second = x.count(6);
        makeQuills(x, 0, 0, 5, 1, 9);
        x.bale(0, 1);
        due("the later day's strips", x.traced(0, 0, 3000), 0);
        x.bale(0, 4);
        due("the first chest", x.traced(0, 0, 3000), 0);
        due("by the day", x.traced(0, 10, 10), 1);
        due("by the later day", x.traced(0, second, second), 0);
        due("the day before", x.traced(0, 0, 9), -2);
        due("between", x.traced(0, 11, second - 1), -2);
        due("behind", x.traced(0, second + 1, 3000), -2);
        due("any numbers", x.traced(0, Integer.MIN_VALUE, Integer.MAX_VALUE), 0);
        due("from behind to", x.traced(0, 3000, 0), -2);
        due("from behind to", x.traced(0, Integer.MAX_VALUE, Integer.MIN_VALUE), -2);
        due("the other garden", x.traced(1, 0, 3000), -2);
    }

    // ---- promises 23 and 24

    private static void count() {
        promise = 23;
        CinnamonPeelers x = new CinnamonPeelers();
        x.family(0);
        x.family(0);
        x.garden(0);
        makeQuills(x, 0, 0, 6, 1, 9);
        x.cut(0, 0, 1, 1, 1);
        x.bale(0, 1);
        x.pass(119 - x.count(6));
        int[] dueNow = {2, 1, 7, 6, 1, 1, 119, 1};
        for (int what = 0; what < 8; what++) {
            due("count(" + what + ")", x.count(what), dueNow[what]);
        }
        x.pass(1);
        due("the next year", x.count(7), 2);
        due("count(-1)", x.count(-1), NONE);
        due("count(8)", x.count(8), NONE);
        due("count(least)", x.count(Integer.MIN_VALUE), NONE);
    }

    /** Calls that only ask, even in vain, leave the trouble of the call before them. */
    private static void trouble() {
        promise = 24;
        CinnamonPeelers x = new CinnamonPeelers();
        x.family(21);
        x.strip(0, 0);
        x.ready(0);
        x.dryOn(0);
        x.could(0);
        x.quill(0, 0);
        noSuchPart(x, 0, 0);
        x.baleOf(0, 0);
        x.about(0, 0);
        x.chest(0, 0);
        x.share(0, 0);
        x.traced(0, 0, 0);
        x.count(-1);
        due("of the refused call", x.trouble(), 2);
        due("asked again", x.trouble(), 2);
        x.family(1);
        due("of the call that was not refused", x.trouble(), 0);
        x.garden(0);
        x.cut(0, 0, 42, 1, 1);
        x.could(7);
        due("of the cut", x.trouble(), 0);
        x.join(0);
        due("of the join", x.trouble(), 5);
        x.pass(3);
        due("of the pass", x.trouble(), 0);
        x.most(3);
        due("of most", x.trouble(), 1);
        x.most(0);
        due("of most", x.trouble(), 0);
        x.set(1, 1);
        x.rain(4, true);
        due("of rain", x.trouble(), 0);
    }

    // ---- helpers

    private static void cutMany(CinnamonPeelers x, int family, int garden, int many, int length, int width, int taste) {
        for (int i = 0; i < many; i++) {
            x.cut(family, garden, length, width, taste);
        }
    }

    /** Quills of one strip each, joined 13 days later, when every width is dry: span must be 42. */
    private static void makeQuills(CinnamonPeelers x, int family, int garden, int many, int width, int taste) {
        cutMany(x, family, garden, many, 42, width, taste);
        x.pass(13);
        for (int i = 0; i < many; i++) {
            x.join(family);
        }
    }

    private static void partsAre(CinnamonPeelers x, int quill, int... parts) {
        due("parts of quill " + quill, x.quill(quill, 2), parts.length);
        for (int k = 0; k < parts.length; k++) {
            due("part(" + quill + ", " + k + ")", x.part(quill, k), parts[k]);
            due("quill of strip " + parts[k], x.strip(parts[k], 7), quill);
        }
    }

    private static int noSuchPart(CinnamonPeelers x, int quill, int k) {
        try {
            x.part(quill, k);
            return 0;
        } catch (NoSuchElementException e) {
            return 1;
        }
    }

    private static void refused(CinnamonPeelers x, String what, int got, int trouble) {
        due(what, got, NONE);
        due(what + ": trouble", x.trouble(), trouble);
    }

    private static void taken(CinnamonPeelers x, String what, int got, int want) {
        due(what, got, want);
        due(what + ": trouble", x.trouble(), 0);
    }

    private static void due(String what, int got, int want) {
        checked++;
        if (got != want) {
            wrong++;
            System.out.println("promise " + promise + ": " + what + " answered " + got + ", due is " + want);
        }
    }
}
