import java.util.ArrayList;
import java.util.NoSuchElementException;

/** Gardens, strips, quills, bales, dues and chests of the peelers of cinnamon. */
public final class CinnamonPeelers {
    public static final int NONE = -1;

    /** Stands where a thing is there, but what was asked of it is not. */
    private static final int NOT_YET = -2;
    private static final int WILD = -1;

    private static final int FAMILIES = 8;
    private static final int GARDENS = 12;
    private static final int STRIPS = 200;
    private static final int QUILLS = 120;
    private static final int BALES = 60;
    private static final int CHESTS = 20;

    private static final int LAST_DAY = 3000;
    private static final int YEAR_DAYS = 60;
    private static final int LONGEST_PASS = 200;
    private static final int DRYING_BEYOND_WIDTH = 2;

    private static final int LONGEST = 60;
    private static final int WIDEST = 9;
    private static final int TASTIEST = 9;
    private static final int LEAST_SPAN = 10;
    private static final int GREATEST_SPAN = 99;
    private static final int FIRST_SPAN = 42;
    private static final int GREATEST_LAP = 9;
    private static final int FIRST_LAP = 2;

    private static final int MOST_PARTS = 4;
    private static final int LOOKED_AT = 30;
    private static final int PACKED = 12;

    private static final int GRADES = 4;
    private static final int GREATEST_DUE = 20;
    private static final int GREATEST_PRICE = 9999;
    private static final int FIRST_PRICE = 100;
    private static final int QUILLS_IN_BALE = 5;
    private static final int BALES_IN_CHEST = 6;

    private static final int FINE = 0;
    private static final int NONE_SUCH = 1;
    private static final int BAD_NUMBER = 2;
    private static final int NO_ROOM = 3;
    private static final int MAY_NOT = 4;
    private static final int NONE_CAN_BE_MADE = 5;
    private static final int TOO_MANY = 6;

    private final ArrayList<Family> families = new ArrayList<>();
    private final ArrayList<Garden> gardens = new ArrayList<>();
    private final ArrayList<Strip> strips = new ArrayList<>();
    private final ArrayList<Quill> quills = new ArrayList<>();
    private final ArrayList<Bale> bales = new ArrayList<>();
    private final ArrayList<Chest> chests = new ArrayList<>();
    private final Weather weather = new Weather();
    private final Joiner joiner = new Joiner();
    private final Packer packer = new Packer();
    private final int[] prices = {0, FIRST_PRICE, FIRST_PRICE, FIRST_PRICE, FIRST_PRICE};
    private int span = FIRST_SPAN;
    private int lap = FIRST_LAP;
    private int today = 0;
    private int troubleNow = FINE;

    public CinnamonPeelers() {
    }

    public int family(int due) {
        if (!isFrom(due, 0, GREATEST_DUE)) {
            return refuse(BAD_NUMBER);
        }
        if (families.size() >= FAMILIES) {
            return refuse(NO_ROOM);
        }
        families.add(new Family(due));
        return accept(families.size() - 1);
    }

    public int garden(int family) {
        if (family != WILD && !isFamily(family)) {
            return refuse(NONE_SUCH);
        }
        if (gardens.size() >= GARDENS) {
            return refuse(NO_ROOM);
        }
        gardens.add(new Garden(family));
        return accept(gardens.size() - 1);
    }

    public boolean set(int span, int lap) {
        if (!isFrom(span, LEAST_SPAN, GREATEST_SPAN) || !isFrom(lap, 0, GREATEST_LAP)) {
            return ended(BAD_NUMBER);
        }
        this.span = span;
        this.lap = lap;
        return ended(FINE);
    }

    public boolean price(int grade, int pence) {
        if (!isGrade(grade)) {
            return ended(NONE_SUCH);
        }
        if (!isFrom(pence, 0, GREATEST_PRICE)) {
            return ended(BAD_NUMBER);
        }
        prices[grade] = pence;
        return ended(FINE);
    }

    public boolean rain(int day, boolean is) {
        if (day <= today || day > LAST_DAY) {
            return ended(BAD_NUMBER);
        }
        weather.tell(day, is);
        return ended(FINE);
    }

    public int cut(int family, int garden, int length, int width, int taste) {
        if (!isFamily(family) || !isGarden(garden)) {
            return refuse(NONE_SUCH);
        }
        if (!isFrom(length, 1, LONGEST) || !isFrom(width, 1, WIDEST) || !isFrom(taste, 0, TASTIEST)) {
            return refuse(BAD_NUMBER);
        }
        if (!gardens.get(garden).isOpenTo(family)) {
            return refuse(MAY_NOT);
        }
        if (strips.size() >= STRIPS) {
            return refuse(NO_ROOM);
        }
        strips.add(new Strip(family, garden, length, width, taste, today));
        return accept(strips.size() - 1);
    }

    public int pass(int days) {
        if (!isFrom(days, 1, LONGEST_PASS) || today + days > LAST_DAY) {
            return refuse(BAD_NUMBER);
        }
        int before = thisYear();
        today += days;
        int now = thisYear();
        for (int year = before; year < now; year++) {
            beginYear();
        }
        return accept(today);
    }

    public int strip(int i, int what) {
        if (!isStrip(i)) {
            return NONE;
        }
        Strip strip = strips.get(i);
        switch (what) {
            case 0: return strip.family;
            case 1: return strip.garden;
            case 2: return strip.length;
            case 3: return strip.width;
            case 4: return strip.taste;
            case 5: return strip.day;
            case 6: return isDry(strip) ? 1 : 0;
            case 7: return strip.quill;
            default: return NONE;
        }
    }

    public int ready(int family) {
        if (!isFamily(family)) {
            return NONE;
        }
        int found = 0;
        for (int i = 0; i < strips.size(); i++) {
            if (mayBeJoined(strips.get(i), family)) {
                found++;
            }
        }
        return found;
    }

    public int dryOn(int strip) {
        return isStrip(strip) ? dayOfDryness(strips.get(strip)) : NONE;
    }

    public int join(int family) {
        if (!isFamily(family)) {
            return refuse(NONE_SUCH);
        }
        int size = findBest(family);
        if (size == 0) {
            return refuse(NONE_CAN_BE_MADE);
        }
        if (quills.size() >= QUILLS) {
            return refuse(NO_ROOM);
        }
        Quill quill = new Quill(family, today, size);
        for (int k = 0; k < size; k++) {
            putInto(quill, joiner.partOfBest(k));
        }
        quills.add(quill);
        return accept(quills.size() - 1);
    }

    public int could(int family) {
        if (!isFamily(family)) {
            return NONE;
        }
        int size = findBest(family);
        return size == 0 ? NOT_YET : size;
    }

    public int most(int family) {
        if (!isFamily(family)) {
            return refuse(NONE_SUCH);
        }
        packer.clear();
        for (int i = 0; i < strips.size(); i++) {
            Strip strip = strips.get(i);
            if (mayBeJoined(strip, family) && !packer.takes(strip.length)) {
                return refuse(TOO_MANY);
            }
        }
        return accept(packer.mostQuills(span, lap));
    }

    public int quill(int i, int what) {
        if (!isQuill(i)) {
            return NONE;
        }
        Quill quill = quills.get(i);
        switch (what) {
            case 0: return quill.family;
            case 1: return quill.grade();
            case 2: return quill.size();
            case 3: return quill.day;
            case 4: return quill.bale;
            case 5: return quill.taste;
            default: return NONE;
        }
    }

    public int part(int quill, int k) throws NoSuchElementException {
        if (!isQuill(quill) || k < 0 || k >= quills.get(quill).size()) {
            throw new NoSuchElementException("no such strip of a quill");
        }
        return quills.get(quill).partAt(k);
    }

    public int bale(int family, int grade) {
        if (!isFamily(family) || !isGrade(grade)) {
            return refuse(NONE_SUCH);
        }
        if (looseOf(family, grade) < QUILLS_IN_BALE) {
            return refuse(NONE_CAN_BE_MADE);
        }
        int chest = chestFor(grade);
        if (bales.size() >= BALES || chest >= CHESTS) {
            return refuse(NO_ROOM);
        }
        int number = bales.size();
        bindQuills(family, grade, number);
        bales.add(reckon(family, grade, chest));
        putInChest(chest, grade, number);
        return accept(number);
    }

    public int baleOf(int i, int what) {
        if (!isBale(i)) {
            return NONE;
        }
        Bale bale = bales.get(i);
        switch (what) {
            case 0: return bale.family;
            case 1: return bale.grade;
            case 2: return bale.day;
            case 3: return bale.chest;
            case 4: return bale.isDue ? 1 : 0;
            case 5: return bale.paid;
            default: return NONE;
        }
    }

    public int about(int family, int what) {
        if (!isFamily(family)) {
            return NONE;
        }
        Family asked = families.get(family);
        switch (what) {
            case 0: return asked.due;
            case 1: return asked.gave;
            case 2: return asked.lacks;
            case 3: return asked.paid;
            case 4: return quillsInNoBale(family);
            case 5: return stripsOf(family);
            default: return NONE;
        }
    }

    public int chest(int i, int what) {
        if (!isChest(i)) {
            return NONE;
        }
        Chest chest = chests.get(i);
        switch (what) {
            case 0: return chest.grade;
            case 1: return chest.held;
            case 2: return chest.firstBale;
            default: return NONE;
        }
    }

    public int share(int chest, int garden) {
        if (!isChest(chest) || !isGarden(garden)) {
            return NONE;
        }
        int lengths = 0;
        for (int i = 0; i < strips.size(); i++) {
            Strip strip = strips.get(i);
            if (strip.garden == garden && chestOf(strip) == chest) {
                lengths += strip.length;
            }
        }
        return lengths;
    }

    public int traced(int garden, int from, int to) {
        if (!isGarden(garden)) {
            return NONE;
        }
        int first = NOT_YET;
        for (int i = 0; i < strips.size(); i++) {
            Strip strip = strips.get(i);
            if (strip.garden == garden && isFrom(strip.day, from, to)) {
                int chest = chestOf(strip);
                if (chest != NONE && (first == NOT_YET || chest < first)) {
                    first = chest;
                }
            }
        }
        return first;
    }

    public int count(int what) {
        switch (what) {
            case 0: return families.size();
            case 1: return gardens.size();
            case 2: return strips.size();
            case 3: return quills.size();
            case 4: return bales.size();
            case 5: return chests.size();
            case 6: return today;
            case 7: return thisYear();
            default: return NONE;
        }
    }

    public int trouble() {
        return troubleNow;
    }

    // ---- what a call ends with

    private int refuse(int why) {
        troubleNow = why;
        return NONE;
    }

    private int accept(int answer) {
        troubleNow = FINE;
        return answer;
    }

    private boolean ended(int why) {
        troubleNow = why;
        return why == FINE;
    }

    // ---- what there is

    private static boolean isFrom(int number, int least, int greatest) {
        return number >= least && number <= greatest;
    }

    private static boolean isGrade(int grade) {
        return isFrom(grade, 1, GRADES);
    }

    private boolean isFamily(int i) {
        return i >= 0 && i < families.size();
    }

    private boolean isGarden(int i) {
        return i >= 0 && i < gardens.size();
    }

    private boolean isStrip(int i) {
        return i >= 0 && i < strips.size();
    }

    private boolean isQuill(int i) {
        return i >= 0 && i < quills.size();
    }

    private boolean isBale(int i) {
        return i >= 0 && i < bales.size();
    }

    private boolean isChest(int i) {
        return i >= 0 && i < chests.size();
    }

    // ---- days

    private int thisYear() {
        return today / YEAR_DAYS;
    }

    private void beginYear() {
        for (int i = 0; i < families.size(); i++) {
            families.get(i).beginYear();
        }
    }

    private int dayOfDryness(Strip strip) {
        return weather.endOfDryDays(strip.day, strip.width + DRYING_BEYOND_WIDTH);
    }

    private boolean isDry(Strip strip) {
        int day = dayOfDryness(strip);
        return day != NOT_YET && day <= today;
    }

    // ---- joining

    private boolean mayBeJoined(Strip strip, int family) {
        return strip.family == family && strip.quill == NOT_YET && isDry(strip);
    }

    /** The size of the best quill, which the joiner then holds; 0 if there is none. */
    private int findBest(int family) {
        joiner.clear();
        for (int i = 0; i < strips.size() && joiner.hasRoom(); i++) {
            Strip strip = strips.get(i);
            if (mayBeJoined(strip, family)) {
                joiner.take(i, strip.length, strip.taste);
            }
        }
        return joiner.sizeOfBest(span, lap);
    }

    private void putInto(Quill quill, int number) {
        if (isStrip(number)) {
            Strip strip = strips.get(number);
            strip.quill = quills.size();
            quill.take(number, strip.width, strip.taste);
        }
    }

    private int stripsOf(int family) {
        int found = 0;
        for (int i = 0; i < strips.size(); i++) {
            if (strips.get(i).family == family) {
                found++;
            }
        }
        return found;
    }

    // ---- bales and chests

    private int quillsInNoBale(int family) {
        int found = 0;
        for (int grade = 1; grade <= GRADES; grade++) {
            found += looseOf(family, grade);
        }
        return found;
    }

    private int looseOf(int family, int grade) {
        int found = 0;
        for (int i = 0; i < quills.size(); i++) {
            if (quills.get(i).isLoose(family, grade)) {
                found++;
            }
        }
        return found;
    }

    private void bindQuills(int family, int grade, int bale) {
        int bound = 0;
        for (int i = 0; i < quills.size() && bound < QUILLS_IN_BALE; i++) {
            Quill quill = quills.get(i);
            if (quill.isLoose(family, grade)) {
                quill.bale = bale;
                bound++;
            }
        }
    }

    private Bale reckon(int family, int grade, int chest) {
        boolean isDue = isFamily(family) && families.get(family).owesAndGives();
        int paid = isDue || !isGrade(grade) ? 0 : prices[grade];
        if (isFamily(family)) {
            families.get(family).paid += paid;
        }
        return new Bale(family, grade, today, chest, isDue, paid);
    }

    /** The chest that the next bale of a grade comes into; the number of chests if a new one is wanted. */
    private int chestFor(int grade) {
        for (int i = 0; i < chests.size(); i++) {
            if (chests.get(i).isOpenTo(grade)) {
                return i;
            }
        }
        return chests.size();
    }

    private void putInChest(int chest, int grade, int bale) {
        if (isChest(chest)) {
            chests.get(chest).held++;
        } else {
            chests.add(new Chest(grade, bale));
        }
    }

    private int chestOf(Strip strip) {
        if (!isQuill(strip.quill)) {
            return NONE;
        }
        int bale = quills.get(strip.quill).bale;
        return isBale(bale) ? bales.get(bale).chest : NONE;
    }

    private static final class Family {
        final int due;
        int gave;
        int lacks;
        int paid;

        Family(int due) {
            this.due = due;
        }

        void beginYear() {
            lacks += due - gave;
            gave = 0;
        }

        /** Whether a bale goes to dues; if so it is given here. */
        boolean owesAndGives() {
            if (lacks > 0) {
                lacks--;
                return true;
            }
            if (gave < due) {
                gave++;
                return true;
            }
            return false;
        }
    }

    private static final class Garden {
        final int family;

        Garden(int family) {
            this.family = family;
        }

        boolean isOpenTo(int cutter) {
            return family == WILD || family == cutter;
        }
    }

    private static final class Strip {
        final int family;
        final int garden;
        final int length;
        final int width;
        final int taste;
        final int day;
        int quill = NOT_YET;

        Strip(int family, int garden, int length, int width, int taste, int day) {
            this.family = family;
            this.garden = garden;
            this.length = length;
            this.width = width;
            this.taste = taste;
            this.day = day;
        }
    }

    private static final class Quill {
        final int family;
        final int day;
        int bale = NOT_YET;
        int taste;
        private final int[] parts;
        private int taken;
        private int widest;
        private int mildest = TASTIEST;

        Quill(int family, int day, int size) {
            this.family = family;
            this.day = day;
            this.parts = new int[isFrom(size, 1, MOST_PARTS) ? size : MOST_PARTS];
        }

        void take(int number, int width, int taste) {
            if (taken < parts.length) {
                parts[taken] = number;
                taken++;
                widest = Math.max(widest, width);
                mildest = Math.min(mildest, taste);
                this.taste += taste;
            }
        }

        int size() {
            return taken;
        }

        int partAt(int k) {
            return k >= 0 && k < parts.length ? parts[k] : NONE;
        }

        int grade() {
            if (widest <= 2 && mildest >= 7) {
                return 1;
            }
            if (widest <= 4 && mildest >= 4) {
                return 2;
            }
            return widest <= 6 ? 3 : 4;
        }

        boolean isLoose(int family, int grade) {
            return bale == NOT_YET && this.family == family && grade() == grade;
        }
    }

    private static final class Bale {
        final int family;
        final int grade;
        final int day;
        final int chest;
        final boolean isDue;
        final int paid;

        Bale(int family, int grade, int day, int chest, boolean isDue, int paid) {
            this.family = family;
            this.grade = grade;
            this.day = day;
            this.chest = chest;
            this.isDue = isDue;
            this.paid = paid;
        }
    }

    private static final class Chest {
        final int grade;
        final int firstBale;
        int held = 1;

        Chest(int grade, int firstBale) {
            this.grade = grade;
            this.firstBale = firstBale;
        }

        boolean isOpenTo(int grade) {
            return this.grade == grade && held < BALES_IN_CHEST;
        }
    }

    /** Which days have rain, as it is told. */
    private static final class Weather {
        private final boolean[] wet = new boolean[LAST_DAY + 1];

        void tell(int day, boolean is) {
            if (day >= 0 && day < wet.length) {
                wet[day] = is;
            }
        }

        /** The day on which so many dry days have gone by behind a day; NOT_YET if it is beyond the last. */
        int endOfDryDays(int behind, int wanted) {
            int dry = 0;
            for (int day = Math.max(behind, 0) + 1; day < wet.length; day++) {
                if (!wet[day]) {
                    dry++;
                }
                if (dry >= wanted) {
                    return day;
                }
            }
            return NOT_YET;
        }
    }

    /**
     * Looks for the best quill. Strips are taken in the order of their numbers, so the quills of one size are
     * tried in the order that decides between equals, and a later one wins only by more taste.
     */
    private static final class Joiner {
        private static final int ROW = LONGEST + 1;

        private final int[] numbers = new int[LOOKED_AT];
        private final int[] lengths = new int[LOOKED_AT];
        private final int[] tastes = new int[LOOKED_AT];
        /** Row by row: the tastiest strip of each length from a place on, the first of equals. */
        private final int[] tastiest = new int[(LOOKED_AT + 1) * ROW];
        private final int[] tried = new int[MOST_PARTS];
        private final int[] best = new int[MOST_PARTS];
        private int held;
        private int bestTaste;

        void clear() {
            held = 0;
        }

        boolean hasRoom() {
            return held < LOOKED_AT;
        }

        void take(int number, int length, int taste) {
            if (held < LOOKED_AT) {
                numbers[held] = number;
                lengths[held] = length;
                tastes[held] = taste;
                held++;
            }
        }

        int sizeOfBest(int span, int lap) {
            fillTastiest();
            for (int size = 1; size <= MOST_PARTS; size++) {
                bestTaste = NONE;
                chooseFrom(0, size - 1, 0, span + lap * (size - 1), 0);
                if (bestTaste != NONE) {
                    return size;
                }
            }
            return 0;
        }

        int partOfBest(int k) {
            if (k < 0 || k >= MOST_PARTS) {
                return NONE;
            }
            int place = best[k];
            return place >= 0 && place < held ? numbers[place] : NONE;
        }

        private void fillTastiest() {
            for (int length = 0; length < ROW; length++) {
                tastiest[held * ROW + length] = NONE;
            }
            for (int place = held - 1; place >= 0; place--) {
                int row = place * ROW;
                System.arraycopy(tastiest, row + ROW, tastiest, row, ROW);
                int length = lengths[place];
                if (length >= 0 && length < ROW && isAsTasty(place, tastiest[row + length])) {
                    tastiest[row + length] = place;
                }
            }
        }

        private boolean isAsTasty(int place, int other) {
            return other < 0 || other >= held || tastes[place] >= tastes[other];
        }

        /** Tries all strips from a place on for the part k, and behind it for those up to the last. */
        private void chooseFrom(int k, int last, int from, int missing, int taste) {
            if (k >= last || k >= MOST_PARTS) {
                finish(last, from, missing, taste);
                return;
            }
            for (int place = from; place < held; place++) {
                int rest = missing - lengths[place];
                if (rest >= last - k && rest <= (last - k) * LONGEST) {
                    tried[k] = place;
                    chooseFrom(k + 1, last, place + 1, rest, taste + tastes[place]);
                }
            }
        }

        /** The last part must have just the length that is missing, so it is looked up. */
        private void finish(int last, int from, int missing, int taste) {
            if (missing < 1 || missing >= ROW || from > held || last >= MOST_PARTS) {
                return;
            }
            int place = tastiest[from * ROW + missing];
            if (place >= 0 && place < held && taste + tastes[place] > bestTaste) {
                bestTaste = taste + tastes[place];
                for (int k = 0; k < last; k++) {
                    best[k] = tried[k];
                }
                best[last] = place;
            }
        }
    }

    /** Counts how many quills a few strips make at once; a set of strips is a mask of bits. */
    private static final class Packer {
        private static final int SETS = 1 << PACKED;
        /** All sets of 1 to 4 out of 12 strips: 12 + 66 + 220 + 495. */
        private static final int SMALL_SETS = 793;

        private final int[] lengths = new int[PACKED];
        /** The sets that make a quill, those with the same first strip together. */
        private final int[] quillSets = new int[SMALL_SETS];
        private final int[] groupStarts = new int[PACKED + 1];
        private final int[] known = new int[SETS];
        private int held;
        private int found;
        private int fewestParts;

        void clear() {
            held = 0;
        }

        boolean takes(int length) {
            if (held >= PACKED) {
                return false;
            }
            lengths[held] = length;
            held++;
            return true;
        }

        int mostQuills(int span, int lap) {
            found = 0;
            fewestParts = MOST_PARTS;
            for (int first = 0; first < held; first++) {
                groupStarts[first] = found;
                collect(1 << first, 1, first + 1, span - lengths[first], lap);
            }
            groupStarts[held] = found;
            int all = (1 << held) - 1;
            for (int set = 0; set <= all; set++) {
                known[set] = NONE;
            }
            return mostOf(0, all);
        }

        private void collect(int set, int parts, int from, int missing, int lap) {
            if (missing == 0 && found < SMALL_SETS) {
                quillSets[found] = set;
                found++;
                fewestParts = Math.min(fewestParts, parts);
            }
            if (parts < MOST_PARTS) {
                for (int next = from; next < held; next++) {
                    collect(set | (1 << next), parts + 1, next + 1, missing + lap - lengths[next], lap);
                }
            }
        }

        /** The most quills of a set none of whose strips stands before first. */
        private int mostOf(int first, int set) {
            if (first >= held || set <= 0 || set >= SETS) {
                return 0;
            }
            if ((set & (1 << first)) == 0) {
                return mostOf(first + 1, set);
            }
            if (known[set] == NONE) {
                known[set] = mostByFirst(first, set);
            }
            return known[set];
        }

        /** As mostOf, for a set that has first; ends early where no more quills than found can be made. */
        private int mostByFirst(int first, int set) {
            int bound = Integer.bitCount(set) / Math.max(fewestParts, 1);
            int most = 0;
            for (int i = groupStarts[first]; i < groupStarts[first + 1] && most < bound; i++) {
                int quill = quillSets[i];
                if ((quill & set) == quill) {
                    most = Math.max(most, 1 + mostOf(first + 1, set & ~quill));
                }
            }
            return most < bound ? Math.max(most, mostOf(first + 1, set & ~(1 << first))) : most;
        }
    }
}
