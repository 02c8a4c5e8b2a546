import java.util.ArrayList;
import java.util.List;

/**
 * LANGUAGE.md 7: no call throws by itself or fails to end, for any arguments in any state. Every call is made with
 * every mixture of far, near and fitting numbers, on objects with nothing, something and all that can be in them.
 */
public final class AnyArgumentsTest {
    private static final int LEAST = Integer.MIN_VALUE;
    private static final int GREATEST = Integer.MAX_VALUE;
    private static final int[] NUMBERS = {
        LEAST, LEAST + 1, LEAST + 3000, -3001, -60, -3, -2, -1, 0, 1, 2, 3, 4, 5, 6, 7, 8, 9, 10, 12, 20, 42, 60, 61,
        99, 119, 199, 200, 201, 2999, 3000, 3001, 9999, GREATEST - 3000, GREATEST - 1, GREATEST};
    /** The same for calls that take more than two numbers, whose mixtures would be too many. */
    private static final int[] FEWER = {LEAST, -1, 0, 1, 9, 42, 3001, GREATEST};
    private static final String[] NAMES = {
        "family 1", "garden 1", "set 2", "price 2", "rain 2", "cut 5", "pass 1", "strip 2", "ready 1", "dryOn 1",
        "join 1", "could 1", "most 1", "quill 2", "part 2", "bale 2", "baleOf 2", "about 2", "chest 2", "share 2",
        "traced 3", "count 1", "trouble 0"};
    /** No answer of the document is less: NONE is -1, and -2 stands where something is not there yet. */
    private static final int LEAST_ANSWER = -2;

    private static int made = 0;
    private static int wrong = 0;

    public static void main(String[] args) {
        List<List<Run.Call>> states = List.of(nothing(), something(), everything(), lastDay(), rainAlone());
        for (List<Run.Call> state : states) {
            for (String name : NAMES) {
                String[] nameAndMany = name.split(" ");
                tryAll(state, nameAndMany[0], Integer.parseInt(nameAndMany[1]));
            }
        }
        System.out.println(made + " calls made, " + wrong + " not as due");
        if (wrong != 0) {
            System.exit(1);
        }
    }

    /** All mixtures one behind the other on one object, so that what a call leaves behind is met by the next. */
    private static void tryAll(List<Run.Call> state, String name, int many) {
        CinnamonPeelers x = new CinnamonPeelers();
        for (Run.Call call : state) {
            tryOne(x, call);
        }
        int[] numbers = many > 2 ? FEWER : NUMBERS;
        int mixtures = 1;
        for (int k = 0; k < many; k++) {
            mixtures *= numbers.length;
        }
        for (int i = 0; i < mixtures; i++) {
            int[] a = new int[many];
            for (int k = 0, rest = i; k < many; k++, rest /= numbers.length) {
                a[k] = numbers[rest % numbers.length];
            }
            tryOne(x, new Run.Call(name, a));
        }
        for (Run.Call call : asks()) {
            tryOne(x, call);
        }
    }

    private static void tryOne(CinnamonPeelers x, Run.Call call) {
        made++;
        try {
            int answer = call.on(x);
            if (answer < LEAST_ANSWER && !Run.isThrown(answer)) {
                fault(call + " answered " + answer);
            }
        } catch (RuntimeException e) {
            fault(call + " threw " + e);
        }
    }

    private static void fault(String what) {
        wrong++;
        System.out.println(what);
    }

    private static List<Run.Call> asks() {
        List<Run.Call> calls = new ArrayList<>();
        for (int family = 0; family < 8; family++) {
            add(calls, 1, "ready", family);
            add(calls, 1, "could", family);
            add(calls, 1, "most", family);
            add(calls, 1, "join", family);
            add(calls, 1, "bale", family, 1);
            add(calls, 1, "about", family, 4);
        }
        return calls;
    }

    // ---- states

    private static List<Run.Call> nothing() {
        return new ArrayList<>();
    }

    /** Two families, a garden of each sort, strips dry and wet, a quill, a bale. */
    private static List<Run.Call> something() {
        List<Run.Call> calls = new ArrayList<>();
        add(calls, 2, "family", 1);
        add(calls, 1, "garden", 0);
        add(calls, 1, "garden", -1);
        add(calls, 6, "cut", 0, 0, 42, 1, 9);
        add(calls, 12, "cut", 1, 1, 12, 1, 5);
        add(calls, 1, "pass", 3);
        add(calls, 6, "join", 0);
        add(calls, 1, "bale", 0, 1);
        add(calls, 3, "cut", 0, 1, 20, 9, 0);
        add(calls, 1, "rain", 5, 1);
        return calls;
    }

    /** No room for anything more; the last strips are dry and in no quill. */
    private static List<Run.Call> everything() {
        List<Run.Call> calls = new ArrayList<>();
        add(calls, 8, "family", 20);
        add(calls, 12, "garden", -1);
        add(calls, 200, "cut", 0, 0, 42, 1, 9);
        add(calls, 1, "pass", 3);
        add(calls, 120, "join", 0);
        add(calls, 24, "bale", 0, 1);
        return calls;
    }

    private static List<Run.Call> lastDay() {
        List<Run.Call> calls = new ArrayList<>();
        add(calls, 1, "family", 20);
        add(calls, 1, "garden", 0);
        add(calls, 30, "cut", 0, 0, 12, 1, 9);
        add(calls, 15, "pass", 200);
        add(calls, 30, "cut", 0, 0, 12, 1, 9);
        return calls;
    }

    /** It rains from the first day a strip might dry to the last. */
    private static List<Run.Call> rainAlone() {
        List<Run.Call> calls = new ArrayList<>();
        add(calls, 1, "family", 0);
        add(calls, 1, "garden", -1);
        for (int day = 1; day <= 3000; day++) {
            add(calls, 1, "rain", day, 1);
        }
        add(calls, 100, "cut", 0, 0, 42, 1, 9);
        add(calls, 1, "pass", 100);
        return calls;
    }

    private static void add(List<Run.Call> calls, int times, String name, int... a) {
        for (int i = 0; i < times; i++) {
            calls.add(new Run.Call(name, a));
        }
    }
}
