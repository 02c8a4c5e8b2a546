import java.lang.reflect.InvocationTargetException;
import java.lang.reflect.Method;
import java.lang.reflect.Modifier;
import java.util.ArrayList;
import java.util.Arrays;
import java.util.Comparator;
import java.util.List;
import java.util.NoSuchElementException;
import java.util.Set;

/**
 * A run of calls on one object, each with the answer that is due. The calls that were taken are kept, so that
 * they can be made again on fresh objects: that is how a refused call is shown to change nothing, while no
 * object is used beyond the 512 calls that the document promises.
 */
final class Run {
    static final int NONE = -1;
    private static final int MOST_CALLS = 512;
    private static final int THROWN = Integer.MIN_VALUE;
    private static final Set<String> CHANGING =
            Set.of("family", "garden", "set", "price", "rain", "cut", "pass", "join", "bale");
    private static final Set<String> TELLING_BY_BOOLEAN = Set.of("set", "price", "rain");

    private static int looked = 0;
    private static int wrong = 0;

    private final String sentence;
    private final CinnamonPeelers object = new CinnamonPeelers();
    private final List<Call> kept = new ArrayList<>();
    private int made = 0;

    /** A run for one sentence of the document, told by its words. */
    Run(String sentence) {
        this.sentence = sentence;
    }

    /** Runs every static method without parameters of a class, so that none is forgotten. */
    static void all(Class<?> tests) throws IllegalAccessException {
        Method[] methods = tests.getDeclaredMethods();
        Arrays.sort(methods, Comparator.comparing(Method::getName));
        int many = 0;
        for (Method m : methods) {
            if (Modifier.isStatic(m.getModifiers()) && m.getParameterCount() == 0 && !m.isSynthetic()) {
                many++;
                try {
                    m.invoke(null);
                } catch (InvocationTargetException e) {
                    wrong++;
                    System.out.println(m.getName() + " threw " + e.getCause());
                }
            }
        }
        System.out.println(many + " tests, " + looked + " answers looked at, " + wrong + " not as due");
        if (wrong != 0 || many == 0) {
            System.exit(1);
        }
    }

    // ---- calls

    /** A call whose answer is handed on, not looked at. */
    int make(String name, int... a) {
        Call call = new Call(name, a);
        made++;
        if (made > MOST_CALLS) {
            fault("the test makes more calls than an object promises to answer");
        }
        int answer = call.on(object);
        if (CHANGING.contains(name) && answer != refusalOf(name)) {
            kept.add(call);
        }
        return answer;
    }

    void many(int times, String name, int... a) {
        for (int i = 0; i < times; i++) {
            make(name, a);
        }
    }

    void due(int want, String name, int... a) {
        look(new Call(name, a).toString(), make(name, a), want);
    }

    /** The call answers so, and its TROUBLE is 0. */
    void taken(int want, String name, int... a) {
        due(want, name, a);
        look("trouble() behind " + new Call(name, a), make("trouble"), 0);
    }

    /** The call is refused for this reason, and changes nothing but TROUBLE. */
    void refused(int why, String name, int... a) {
        Call call = new Call(name, a);
        List<String> before = view(kept);
        due(refusalOf(name), name, a);
        look("trouble() behind " + call, make("trouble"), why);
        sameView(before, call);
    }

    /** The call throws NoSuchElementException, and changes nothing, TROUBLE neither. */
    void thrown(String name, int... a) {
        Call call = new Call(name, a);
        int trouble = make("trouble");
        List<String> before = view(kept);
        look(call + " (throws)", make(name, a), THROWN);
        look("trouble() behind " + call, make("trouble"), trouble);
        sameView(before, call);
    }

    /** None of these calls changes anything, TROUBLE neither. */
    void leavesAll(Call... calls) {
        int trouble = make("trouble");
        for (Call call : calls) {
            make(call.name, call.a);
            look("trouble() behind " + call, make("trouble"), trouble);
        }
        sameView(view(kept), calls);
    }

    /** Quills of one strip each; SPAN must be 42. */
    void quills(int many, int family, int garden, int width, int taste) {
        many(many, "cut", family, garden, 42, width, taste);
        make("pass", width + 2);
        many(many, "join", family);
    }

    /** Days go by until it is this one. */
    void goTo(int day) {
        int left = day - make("count", 6);
        while (left > 0) {
            make("pass", Math.min(left, 200));
            left -= Math.min(left, 200);
        }
        due(day, "count", 6);
    }

    /** The quill has just these strips. */
    void parts(int quill, int... strips) {
        due(strips.length, "quill", quill, 2);
        for (int k = 0; k < strips.length; k++) {
            due(strips[k], "part", quill, k);
            due(quill, "strip", strips[k], 7);
        }
    }

    private static int refusalOf(String name) {
        return TELLING_BY_BOOLEAN.contains(name) ? 0 : NONE;
    }

    private void look(String what, int got, int want) {
        looked++;
        if (got != want) {
            fault(what + " answered " + told(got) + ", due is " + told(want));
        }
    }

    private void fault(String what) {
        wrong++;
        System.out.println(sentence + ": " + what);
    }

    /** Whether an answer of Call.on tells that the call threw what the document names. */
    static boolean isThrown(int answer) {
        return answer == THROWN;
    }

    private static String told(int answer) {
        return isThrown(answer) ? "throws.NoSuchElementException" : String.valueOf(answer);
    }

    // ---- all that can be seen of an object, but for TROUBLE

    private void sameView(List<String> before, Call... more) {
        List<Call> calls = new ArrayList<>(kept);
        calls.addAll(Arrays.asList(more));
        List<String> after = view(calls);
        looked++;
        for (int i = 0; i < Math.max(before.size(), after.size()); i++) {
            String was = i < before.size() ? before.get(i) : "not asked";
            String is = i < after.size() ? after.get(i) : "not asked";
            if (!was.equals(is)) {
                fault("behind " + Arrays.toString(more) + " " + is + ", before it " + was);
                return;
            }
        }
    }

    private static List<String> view(List<Call> calls) {
        CinnamonPeelers counted = replay(calls);
        int[] counts = new int[6];
        for (int what = 0; what < 6; what++) {
            counts[what] = counted.count(what);
        }
        List<String> answers = new ArrayList<>();
        List<Call> asks = asks(counts);
        int room = MOST_CALLS - calls.size();
        for (int from = 0; from < asks.size() && room > 0; from += room) {
            answer(calls, asks.subList(from, Math.min(asks.size(), from + room)), answers);
        }
        for (List<Call> future : futures(counts)) {
            answer(calls, future.subList(0, Math.max(0, Math.min(future.size(), room))), answers);
        }
        return answers;
    }

    private static CinnamonPeelers replay(List<Call> calls) {
        CinnamonPeelers x = new CinnamonPeelers();
        for (Call call : calls) {
            call.on(x);
        }
        return x;
    }

    private static void answer(List<Call> calls, List<Call> asks, List<String> answers) {
        CinnamonPeelers x = replay(calls);
        for (Call ask : asks) {
            answers.add(ask + " answers " + told(ask.on(x)));
        }
    }

    private static List<Call> asks(int[] counts) {
        List<Call> asks = new ArrayList<>();
        askEach(asks, "count", 1, 8);
        for (int family = 0; family < counts[0]; family++) {
            asks.add(new Call("ready", family));
            asks.add(new Call("could", family));
            asks.add(new Call("most", family));
        }
        askEach(asks, "about", counts[0], 6);
        askEach(asks, "strip", counts[2], 8);
        for (int strip = 0; strip < counts[2]; strip++) {
            asks.add(new Call("dryOn", strip));
        }
        askEach(asks, "quill", counts[3], 6);
        askEach(asks, "part", counts[3], 4);
        askEach(asks, "baleOf", counts[4], 6);
        askEach(asks, "chest", counts[5], 3);
        askEach(asks, "share", counts[5], counts[1]);
        for (int garden = 0; garden < counts[1]; garden++) {
            asks.add(new Call("traced", garden, 0, 3000));
        }
        return asks;
    }

    private static void askEach(List<Call> asks, String name, int many, int whats) {
        for (int i = 0; i < many; i++) {
            for (int what = 0; what < whats; what++) {
                asks.add(name.equals("count") ? new Call(name, what) : new Call(name, i, what));
            }
        }
    }

    /** What no call asks for (who may cut, prices, rain to come, room) shows in what can be done next. */
    private static List<List<Call>> futures(int[] counts) {
        List<Call> cutting = new ArrayList<>();
        List<Call> joining = new ArrayList<>();
        List<Call> drying = new ArrayList<>();
        List<Call> owing = new ArrayList<>();
        drying.add(new Call("cut", 0, 0, 1, 9, 0));
        for (int i = 0; i < 14; i++) {
            drying.add(new Call("pass", 1));
            for (int family = 0; family < counts[0]; family++) {
                drying.add(new Call("ready", family));
            }
        }
        owing.add(new Call("pass", 60));
        for (int family = 0; family < counts[0]; family++) {
            for (int garden = 0; garden < counts[1]; garden++) {
                cutting.add(new Call("cut", family, garden, 1, 1, 0));
            }
            joining.add(new Call("join", family));
            for (int grade = 1; grade <= 4; grade++) {
                joining.add(new Call("bale", family, grade));
                joining.add(new Call("about", family, 1));
                joining.add(new Call("about", family, 2));
                joining.add(new Call("about", family, 3));
            }
            owing.add(new Call("about", family, 1));
            owing.add(new Call("about", family, 2));
        }
        return List.of(cutting, joining, drying, owing, List.of(new Call("family", 0), new Call("garden", -1)));
    }

    /** A call of the face by its name; a boolean counts 1 or 0. */
    static final class Call {
        private final String name;
        private final int[] a;

        Call(String name, int... a) {
            this.name = name;
            this.a = a;
        }

        int on(CinnamonPeelers x) {
            switch (name) {
                case "family": return x.family(a[0]);
                case "garden": return x.garden(a[0]);
                case "set": return x.set(a[0], a[1]) ? 1 : 0;
                case "price": return x.price(a[0], a[1]) ? 1 : 0;
                case "rain": return x.rain(a[0], a[1] != 0) ? 1 : 0;
                case "cut": return x.cut(a[0], a[1], a[2], a[3], a[4]);
                case "pass": return x.pass(a[0]);
                case "strip": return x.strip(a[0], a[1]);
                case "ready": return x.ready(a[0]);
                case "dryOn": return x.dryOn(a[0]);
                case "join": return x.join(a[0]);
                case "could": return x.could(a[0]);
                case "most": return x.most(a[0]);
                case "quill": return x.quill(a[0], a[1]);
                case "part": return partOn(x);
                case "bale": return x.bale(a[0], a[1]);
                case "baleOf": return x.baleOf(a[0], a[1]);
                case "about": return x.about(a[0], a[1]);
                case "chest": return x.chest(a[0], a[1]);
                case "share": return x.share(a[0], a[1]);
                case "traced": return x.traced(a[0], a[1], a[2]);
                case "count": return x.count(a[0]);
                case "trouble": return x.trouble();
                default: throw new IllegalArgumentException(name);
            }
        }

        private int partOn(CinnamonPeelers x) {
            try {
                return x.part(a[0], a[1]);
            } catch (NoSuchElementException e) {
                return THROWN;
            }
        }

        @Override
        public String toString() {
            String numbers = Arrays.toString(a);
            return name + "(" + numbers.substring(1, numbers.length() - 1) + ")";
        }
    }
}
