import java.util.ArrayList;
import java.util.Arrays;
import java.util.List;
import java.util.NoSuchElementException;
import java.util.Random;

/** Long runs of calls by a fixed seed; each answer is held against a second, plainer program. */
public final class PlainModelTest {
    private static final int RUNS = 600;
    private static final int CALLS = 511;
    private static final String[] NAMES = {
        "family", "garden", "set", "price", "rain", "cut", "pass", "strip", "ready", "dryOn", "join", "could",
        "most", "quill", "part", "bale", "baleOf", "about", "chest", "share", "traced", "count", "trouble"};
    /** How often each call is made, by the kind of run. */
    private static final int[][] WEIGHTS = {
        {2, 2, 1, 2, 8, 40, 10, 8, 4, 6, 30, 6, 10, 8, 4, 8, 6, 6, 4, 6, 6, 4, 10},
        {1, 1, 0, 1, 2, 90, 6, 2, 2, 2, 70, 2, 2, 3, 2, 12, 3, 3, 3, 4, 4, 2, 4},
        {1, 1, 3, 0, 25, 30, 20, 12, 10, 14, 6, 4, 20, 2, 1, 1, 1, 2, 1, 1, 1, 2, 6},
        {9, 9, 9, 9, 9, 9, 9, 9, 9, 9, 9, 9, 9, 9, 9, 9, 9, 9, 9, 9, 9, 9, 9}};
    private static final long NO_SUCH = 1L << 40;

    private static long[] answered = new long[NAMES.length];
    private static long[] refused = new long[NAMES.length];

    public static void main(String[] args) {
        for (int run = 0; run < RUNS; run++) {
            if (!isRunGood(run)) {
                System.exit(1);
            }
        }
        StringBuilder text = new StringBuilder("all answers agree (call: answers other than NONE, answers NONE):");
        for (int i = 0; i < NAMES.length; i++) {
            text.append(' ').append(NAMES[i]).append(' ').append(answered[i]).append('/').append(refused[i]);
        }
        System.out.println(text);
    }

    private static boolean isRunGood(int run) {
        Random random = new Random(9000 + run);
        Arguments some = new Arguments(random, run);
        int[] weights = WEIGHTS[run % WEIGHTS.length];
        CinnamonPeelers real = new CinnamonPeelers();
        Model model = new Model();
        StringBuilder told = new StringBuilder();
        for (int i = 0; i < CALLS; i++) {
            int call = i < 3 ? (i == 0 ? 0 : 1) : pick(random, weights);
            int[] a = some.of(call, model);
            told.append(NAMES[call]).append(Arrays.toString(a));
            long got;
            try {
                got = onReal(real, call, a);
            } catch (RuntimeException e) {
                System.out.println("run " + run + ": " + told + " threw " + e);
                return false;
            }
            long due = onModel(model, call, a);
            told.append(" -> ").append(got).append('\n');
            if (got != due) {
                System.out.println("run " + run + ":\n" + told + "due is " + due);
                return false;
            }
            if (got == -1 || got == NO_SUCH) {
                refused[call]++;
            } else {
                answered[call]++;
            }
        }
        return true;
    }

    private static int pick(Random random, int[] weights) {
        int left = random.nextInt(Arrays.stream(weights).sum());
        int i = 0;
        while (left >= weights[i]) {
            left -= weights[i];
            i++;
        }
        return i;
    }

    private static long onReal(CinnamonPeelers x, int call, int[] a) {
        switch (call) {
            case 0: return x.family(a[0]);
            case 1: return x.garden(a[0]);
            case 2: return x.set(a[0], a[1]) ? 1 : 0;
            case 3: return x.price(a[0], a[1]) ? 1 : 0;
            case 4: return x.rain(a[0], a[1] > 0) ? 1 : 0;
            case 5: return x.cut(a[0], a[1], a[2], a[3], a[4]);
            case 6: return x.pass(a[0]);
            case 7: return x.strip(a[0], a[1]);
            case 8: return x.ready(a[0]);
            case 9: return x.dryOn(a[0]);
            case 10: return x.join(a[0]);
            case 11: return x.could(a[0]);
            case 12: return x.most(a[0]);
            case 13: return x.quill(a[0], a[1]);
            case 14: return partOf(x, a);
            case 15: return x.bale(a[0], a[1]);
            case 16: return x.baleOf(a[0], a[1]);
            case 17: return x.about(a[0], a[1]);
            case 18: return x.chest(a[0], a[1]);
            case 19: return x.share(a[0], a[1]);
            case 20: return x.traced(a[0], a[1], a[2]);
            case 21: return x.count(a[0]);
            default: return x.trouble();
        }
    }

    private static long partOf(CinnamonPeelers x, int[] a) {
        try {
            return x.part(a[0], a[1]);
        } catch (NoSuchElementException e) {
            return NO_SUCH;
        }
    }

    private static long onModel(Model m, int call, int[] a) {
        switch (call) {
            case 0: return m.family(a[0]);
            case 1: return m.garden(a[0]);
            case 2: return m.set(a[0], a[1]);
            case 3: return m.price(a[0], a[1]);
            case 4: return m.rain(a[0], a[1] > 0);
            case 5: return m.cut(a);
            case 6: return m.pass(a[0]);
            case 7: return m.field(m.strips, a[0], a[1], 8);
            case 8: return has(m.families, a[0]) ? m.usable(a[0]).size() : -1;
            case 9: return has(m.strips, a[0]) ? m.dryDay(a[0]) : -1;
            case 10: return m.join(a[0]);
            case 11: return !has(m.families, a[0]) ? -1 : m.best(a[0]) == null ? -2 : m.best(a[0]).size();
            case 12: return m.most(a[0]);
            case 13: return m.field(m.quills, a[0], a[1], 6);
            case 14: return has(m.quills, a[0]) && has(m.parts.get(a[0]), a[1]) ? m.parts.get(a[0]).get(a[1]) : NO_SUCH;
            case 15: return m.bale(a[0], a[1]);
            case 16: return m.field(m.bales, a[0], a[1], 6);
            case 17: return m.about(a[0], a[1]);
            case 18: return m.chest(a[0], a[1]);
            case 19: return m.share(a[0], a[1]);
            case 20: return m.traced(a[0], a[1], a[2]);
            case 21: return m.count(a[0]);
            default: return m.trouble;
        }
    }

    private static boolean has(List<?> list, int i) {
        return i >= 0 && i < list.size();
    }

    /** Arguments that mostly make sense, so that runs go deep, and sometimes do not. */
    private static final class Arguments {
        private final Random random;
        private final int[] lengths;
        private final int widest;
        private final int leastTaste;
        private final int longestPass;

        Arguments(Random random, int run) {
            this.random = random;
            int[][] kinds = {
                {42}, {12, 22, 32, 42}, {12, 14, 16, 20, 22, 24}, {10, 11, 12, 13, 14, 15, 16, 17, 18, 19, 20, 21, 22, 23},
                {8, 9, 12, 15, 16, 22, 60}, {12}, {22}, {1, 2, 3, 4, 5, 6, 7, 8, 9, 10, 40, 41, 42, 43}};
            int kind = random.nextInt(kinds.length + 1);
            lengths = kind == kinds.length ? null : kinds[kind];
            widest = run % 3 == 0 ? 2 : 9;
            leastTaste = run % 5 < 2 ? 7 : 0;
            longestPass = run % 7 == 0 ? 200 : run % 2 == 0 ? 12 : 40;
        }

        int[] of(int call, Model m) {
            switch (call) {
                case 0: return new int[] {number(0, random.nextBoolean() ? 3 : 20)};
                case 1: return new int[] {random.nextInt(3) == 0 ? -1 : one(m.families.size())};
                case 2: return new int[] {number(10, random.nextBoolean() ? 60 : 99), number(0, 9)};
                case 3: return new int[] {number(1, 4), number(0, 9999)};
                case 4: return new int[] {number(m.today + 1, Math.min(3000, m.today + 12)), random.nextInt(4)};
                case 5: return cutting(m);
                case 6: return new int[] {number(1, longestPass)};
                case 7: return new int[] {one(m.strips.size()), number(0, 7)};
                case 9: return new int[] {one(m.strips.size())};
                case 8: case 10: case 11: case 12: return new int[] {one(m.families.size())};
                case 13: return new int[] {one(m.quills.size()), number(0, 5)};
                case 14: return new int[] {one(m.quills.size()), number(0, 3)};
                case 15: return baling(m);
                case 16: return new int[] {one(m.bales.size()), number(0, 5)};
                case 17: return new int[] {one(m.families.size()), number(0, 5)};
                case 18: return new int[] {one(m.chests.size()), number(0, 2)};
                case 19: return new int[] {one(m.chests.size()), one(m.gardens.size())};
                case 20: return new int[] {one(m.gardens.size()), number(0, m.today + 1), number(0, m.today + 1)};
                case 21: return new int[] {number(0, 7)};
                default: return new int[0];
            }
        }

        private int[] cutting(Model m) {
            int length = lengths == null ? number(1, 60) : lengths[random.nextInt(lengths.length)];
            int family = one(m.families.size());
            int garden = one(m.gardens.size());
            if (has(m.gardens, garden) && m.gardens.get(garden) >= 0 && random.nextInt(12) > 0) {
                family = m.gardens.get(garden);
            }
            return new int[] {family, garden, length, number(1, widest), number(leastTaste, 9)};
        }

        private int[] baling(Model m) {
            int quill = one(m.quills.size());
            if (has(m.quills, quill) && random.nextInt(8) > 0) {
                return new int[] {m.quills.get(quill)[0], m.quills.get(quill)[1]};
            }
            return new int[] {one(m.families.size()), number(1, 4)};
        }

        private int one(int many) {
            return number(0, many - 1);
        }

        private int number(int least, int greatest) {
            int odd = random.nextInt(60);
            if (odd == 0) {
                return least - 1;
            }
            if (odd == 1) {
                return greatest + 1;
            }
            if (odd == 2 && random.nextInt(4) == 0) {
                return random.nextBoolean() ? random.nextInt() : random.nextBoolean() ? Integer.MIN_VALUE : Integer.MAX_VALUE;
            }
            return greatest < least ? least : least + random.nextInt(greatest - least + 1);
        }
    }

    /** The document's words as plainly as they can be put, whatever it costs. */
    private static final class Model {
        final List<int[]> families = new ArrayList<>(); // due, gave, lacks, paid
        final List<Integer> gardens = new ArrayList<>();
        final List<int[]> strips = new ArrayList<>(); // as strip() tells them, 6 unused
        final List<int[]> quills = new ArrayList<>(); // as quill() tells them
        final List<List<Integer>> parts = new ArrayList<>();
        final List<int[]> bales = new ArrayList<>(); // as baleOf() tells them
        final List<List<Integer>> chests = new ArrayList<>();
        final boolean[] wet = new boolean[3001];
        final int[] prices = {0, 100, 100, 100, 100};
        int span = 42;
        int lap = 2;
        int today = 0;
        int trouble = 0;

        private int no(int why) {
            trouble = why;
            return -1;
        }

        private int yes(int answer) {
            trouble = 0;
            return answer;
        }

        private static boolean out(int n, int least, int greatest) {
            return n < least || n > greatest;
        }

        int family(int due) {
            if (out(due, 0, 20)) return no(2);
            if (families.size() == 8) return no(3);
            families.add(new int[] {due, 0, 0, 0});
            return yes(families.size() - 1);
        }

        int garden(int family) {
            if (family != -1 && !has(families, family)) return no(1);
            if (gardens.size() == 12) return no(3);
            gardens.add(family);
            return yes(gardens.size() - 1);
        }

        int set(int s, int l) {
            if (out(s, 10, 99) || out(l, 0, 9)) return no(2) + 1;
            span = s;
            lap = l;
            return yes(1);
        }

        int price(int grade, int pence) {
            if (out(grade, 1, 4)) return no(1) + 1;
            if (out(pence, 0, 9999)) return no(2) + 1;
            prices[grade] = pence;
            return yes(1);
        }

        int rain(int day, boolean is) {
            if (out(day, today + 1, 3000)) return no(2) + 1;
            wet[day] = is;
            return yes(1);
        }

        int cut(int[] a) {
            if (!has(families, a[0]) || !has(gardens, a[1])) return no(1);
            if (out(a[2], 1, 60) || out(a[3], 1, 9) || out(a[4], 0, 9)) return no(2);
            if (gardens.get(a[1]) != -1 && gardens.get(a[1]) != a[0]) return no(4);
            if (strips.size() == 200) return no(3);
            strips.add(new int[] {a[0], a[1], a[2], a[3], a[4], today, 0, -2});
            return yes(strips.size() - 1);
        }

        int pass(int days) {
            if (out(days, 1, 200) || today + days > 3000) return no(2);
            for (int i = 0; i < days; i++) {
                today++;
                if (today % 60 == 0) {
                    for (int[] f : families) {
                        f[2] += f[0] - f[1];
                        f[1] = 0;
                    }
                }
            }
            return yes(today);
        }

        private boolean dryBy(int strip, int day) {
            int dry = 0;
            for (int d = strips.get(strip)[5] + 1; d <= day; d++) {
                dry += wet[d] ? 0 : 1;
            }
            return dry >= strips.get(strip)[3] + 2;
        }

        int dryDay(int strip) {
            for (int day = strips.get(strip)[5]; day <= 3000; day++) {
                if (dryBy(strip, day)) return day;
            }
            return -2;
        }

        List<Integer> usable(int family) {
            List<Integer> found = new ArrayList<>();
            for (int i = 0; i < strips.size(); i++) {
                if (strips.get(i)[0] == family && strips.get(i)[7] == -2 && dryBy(i, today)) found.add(i);
            }
            return found;
        }

        int field(List<int[]> rows, int i, int what, int fields) {
            if (!has(rows, i) || out(what, 0, fields - 1)) return -1;
            return rows == strips && what == 6 ? (dryBy(i, today) ? 1 : 0) : rows.get(i)[what];
        }

        private int sum(List<Integer> some, int field) {
            int sum = 0;
            for (int i : some) sum += strips.get(i)[field];
            return sum;
        }

        private boolean isQuill(List<Integer> some) {
            return !some.isEmpty() && sum(some, 2) - lap * (some.size() - 1) == span;
        }

        private void quillsOf(List<Integer> from, int start, List<Integer> chosen, List<List<Integer>> found) {
            if (isQuill(chosen)) found.add(new ArrayList<>(chosen));
            for (int i = start; i < from.size() && chosen.size() < 4; i++) {
                chosen.add(from.get(i));
                quillsOf(from, i + 1, chosen, found);
                chosen.remove(chosen.size() - 1);
            }
        }

        private boolean isBetter(List<Integer> a, List<Integer> b) {
            if (a.size() != b.size()) return a.size() < b.size();
            if (sum(a, 4) != sum(b, 4)) return sum(a, 4) > sum(b, 4);
            for (int i = 0; i < a.size(); i++) {
                if (!a.get(i).equals(b.get(i))) return a.get(i) < b.get(i);
            }
            return false;
        }

        List<Integer> best(int family) {
            List<Integer> from = usable(family);
            List<List<Integer>> found = new ArrayList<>();
            quillsOf(from.subList(0, Math.min(30, from.size())), 0, new ArrayList<>(), found);
            List<Integer> best = null;
            for (List<Integer> quill : found) {
                if (best == null || isBetter(quill, best)) best = quill;
            }
            return best;
        }

        private int gradeOf(List<Integer> some) {
            int widest = 0;
            int least = 9;
            for (int i : some) {
                widest = Math.max(widest, strips.get(i)[3]);
                least = Math.min(least, strips.get(i)[4]);
            }
            return widest <= 2 && least >= 7 ? 1 : widest <= 4 && least >= 4 ? 2 : widest <= 6 ? 3 : 4;
        }

        int join(int family) {
            if (!has(families, family)) return no(1);
            List<Integer> best = best(family);
            if (best == null) return no(5);
            if (quills.size() == 120) return no(3);
            for (int i : best) strips.get(i)[7] = quills.size();
            quills.add(new int[] {family, gradeOf(best), best.size(), today, -2, sum(best, 4)});
            parts.add(best);
            return yes(quills.size() - 1);
        }

        int most(int family) {
            if (!has(families, family)) return no(1);
            List<Integer> from = usable(family);
            if (from.size() > 12) return no(6);
            List<List<Integer>> found = new ArrayList<>();
            quillsOf(from, 0, new ArrayList<>(), found);
            // By sets of places, from the empty set up: what can be had of each set.
            int[] most = new int[1 << from.size()];
            for (List<Integer> quill : found) {
                int set = 0;
                for (int i : quill) set |= 1 << from.indexOf(i);
                for (int rest = 0; rest < most.length; rest++) {
                    if ((rest & set) == 0 && (rest == 0 || most[rest] > 0)) {
                        most[rest | set] = Math.max(most[rest | set], most[rest] + 1);
                    }
                }
            }
            int greatest = 0;
            for (int m : most) greatest = Math.max(greatest, m);
            return yes(greatest);
        }

        int bale(int family, int grade) {
            if (!has(families, family) || out(grade, 1, 4)) return no(1);
            List<int[]> loose = new ArrayList<>();
            for (int[] q : quills) {
                if (q[0] == family && q[1] == grade && q[4] == -2) loose.add(q);
            }
            if (loose.size() < 5) return no(5);
            for (int[] q : loose.subList(0, 5)) q[4] = bales.size();
            int chest = 0;
            while (chest < chests.size() && (bales.get(chests.get(chest).get(0))[1] != grade || chests.get(chest).size() == 6)) {
                chest++;
            }
            if (chest == chests.size()) chests.add(new ArrayList<>());
            chests.get(chest).add(bales.size());
            int[] f = families.get(family);
            boolean due = f[2] > 0 || f[1] < f[0];
            if (f[2] > 0) f[2]--;
            else if (f[1] < f[0]) f[1]++;
            else f[3] += prices[grade];
            bales.add(new int[] {family, grade, today, chest, due ? 1 : 0, due ? 0 : prices[grade]});
            return yes(bales.size() - 1);
        }

        int about(int family, int what) {
            if (!has(families, family) || out(what, 0, 5)) return -1;
            if (what < 4) return families.get(family)[what];
            int found = 0;
            for (int[] row : what == 4 ? quills : strips) {
                if (row[0] == family && (what == 5 || row[4] == -2)) found++;
            }
            return found;
        }

        int chest(int i, int what) {
            if (!has(chests, i) || out(what, 0, 2)) return -1;
            int first = chests.get(i).get(0);
            return what == 0 ? bales.get(first)[1] : what == 1 ? chests.get(i).size() : first;
        }

        private List<Integer> stripsIn(int chest) {
            List<Integer> found = new ArrayList<>();
            for (int q = 0; q < quills.size(); q++) {
                if (chests.get(chest).contains(quills.get(q)[4])) found.addAll(parts.get(q));
            }
            return found;
        }

        int share(int chest, int garden) {
            if (!has(chests, chest) || !has(gardens, garden)) return -1;
            int sum = 0;
            for (int i : stripsIn(chest)) sum += strips.get(i)[1] == garden ? strips.get(i)[2] : 0;
            return sum;
        }

        int traced(int garden, int from, int to) {
            if (!has(gardens, garden)) return -1;
            for (int chest = 0; chest < chests.size(); chest++) {
                for (int i : stripsIn(chest)) {
                    if (strips.get(i)[1] == garden && !out(strips.get(i)[5], from, to)) return chest;
                }
            }
            return -2;
        }

        int count(int what) {
            int[] all = {families.size(), gardens.size(), strips.size(), quills.size(), bales.size(), chests.size(), today, today / 60};
            return out(what, 0, 7) ? -1 : all[what];
        }
    }
}
