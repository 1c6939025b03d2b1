import java.util.Arrays;

/**
 * A house where guests drink what they have heard, iced: day by day the ice melts, and a glass
 * that has none left goes off, and is felt. What each call answers is told in DOC.md.
 */
public final class IcedTooSoon {
    public static final int NONE = -1, BAD = -2, STATE = -3, FULL = -4;
    public static final long NO = -4611686018427387904L;

    private static final int GUESTS = 6, GLASSES = 10, KINDS = 6, MORES = 10;
    private static final int GUEST = 0, FATHER = 1, GENTLEMAN = 2, BRIDE = 3, LADY = 4, WAITER = 5;
    private static final int[] KIND_ABOVE = {-1, GUEST, GUEST, FATHER, GENTLEMAN, GUEST};

    private static final int TEXTS = 6, TAPE = 160;
    private static final String FIRST_TEXT = "melts 10 ; feels weight ; chills 5 ; ";
    private static final int MELTS = 0, FEELS = 1, CHILLS = 2;

    private static final int LAST_DAY = 999, FARTHEST = 60, TOLD_DAYS = 20;
    private static final int SHEETS = 4, CELLS = 40, BYTES = 0, SHORTS = 1, INTS = 2, MISSING = -1;
    private static final int LAST_SEED = 99999, DRAWN_DAYS = 8;

    private static final int NO_GUEST = -5, NO_GLASS = -6, WRONG_NUMBER = -7;
    private static final int NOTHING_THERE = -11, OUTSIDE = -12, OTHER_SORT = -13, BELOW_ZERO = -14;

    private final Lawbook book;
    private final Tape tape;
    private final House house;
    /** What is only thought of is played here, and forgotten. */
    private final House thought;
    private final House kept;
    private boolean isKept;
    private final Sheet[] sheets;

    public IcedTooSoon() {
        book = new Lawbook();
        tape = new Tape();
        house = new House(book);
        thought = new House(book);
        kept = new House(book);
        isKept = false;
        sheets = new Sheet[SHEETS];
        for (int s = 0; s < SHEETS; s++) {
            sheets[s] = new Sheet();
        }
        for (int i = 0; i < FIRST_TEXT.length(); i++) {
            tape.add(FIRST_TEXT.charAt(i));
        }
        if (tape.isRead()) {
            book.add(tape.written());
        }
        tape.empty();
    }

    // ---- guests, glasses, the law

    public int count(int what) {
        switch (what) {
            case 0: return house.guests;
            case 1: return house.glassesThere();
            case 2: return house.date;
            case 3: return book.size;
            case 4: return house.law;
            case 5: return tape.size;
            default: return BAD;
        }
    }

    public int dawn(int v) {
        if (isOutside(v, 0, LAST_DAY)) {
            return BAD;
        }
        int was = house.date;
        house.date = v;
        return was;
    }

    public int feed(int n, int a, int b, int c, int d, int e) {
        if (isOutside(n, 1, 5) || isNoByte(a) || isNoByte(b) || isNoByte(c) || isNoByte(d) || isNoByte(e)) {
            return BAD;
        }
        if (tape.size + n > TAPE) {
            return FULL;
        }
        for (int i = 0; i < n; i++) {
            tape.add(i == 0 ? a : i == 1 ? b : i == 2 ? c : i == 3 ? d : e);
        }
        return tape.size;
    }

    public int text() {
        if (book.size >= TEXTS) {
            return FULL;
        }
        int answer;
        if (tape.isRead()) {
            answer = book.add(tape.written());
        } else {
            answer = -100 - tape.place;
        }
        tape.empty();
        return answer;
    }

    public int force(int t) {
        if (isOutside(t, 0, book.size - 1)) {
            return BAD;
        }
        int was = house.law;
        house.law = t;
        return was;
    }

    public int asks(int part, int g) {
        if (isOutside(part, MELTS, CHILLS) || !house.hasGlass(g)) {
            return -1000;
        }
        return house.saying(part, g);
    }

    public int guest(int kindMore, int moods) {
        return house.admit(kindMore, moods);
    }

    public int order(int p, int heavy, int much) {
        if (!house.hasGuest(p)) {
            return NO_GUEST;
        }
        if (isOutside(heavy, -99, 99) || isOutside(much, 1, 99)) {
            return WRONG_NUMBER;
        }
        return house.serve(p, heavy, much);
    }

    public int put(int p, int what, int v) {
        if (!house.hasGuest(p)) {
            return -5000;
        }
        if (isOutside(what, 0, 1) || isOutside(v, what == 0 ? -99 : 0, 99)) {
            return -7000;
        }
        int was = what == 0 ? house.mood[p] : house.cold[p];
        house.set(p, what, v);
        return was;
    }

    public int told(int p, int what) {
        if (!house.hasGuest(p)) {
            return -5000;
        }
        switch (what) {
            case 0: return house.mood[p];
            case 1: return house.cold[p];
            case 2: return house.kind[p];
            case 3: return house.more[p];
            case 4: return house.glassesOf(p);
            case 5: return nextOff(house.glassesOf(p));
            default: return -7000;
        }
    }

    public int glass(int g, int what) {
        if (!house.hasGlass(g)) {
            return -6000;
        }
        switch (what) {
            case 0: return house.whose[g];
            case 1: return house.weight[g];
            case 2: return house.ice[g];
            case 3: return house.melting(g);
            case 4: return house.feeling(g);
            case 5: return house.chilling(g);
            default: return -7000;
        }
    }

    // ---- days

    public int day() {
        if (house.date >= LAST_DAY) {
            return STATE;
        }
        return house.passDay();
    }

    public int iced(int g, int much) {
        if (!house.hasGlass(g)) {
            return NO_GLASS;
        }
        if (isOutside(much, 0, 99)) {
            return WRONG_NUMBER;
        }
        house.addIce(g, much);
        return house.ice[g];
    }

    public int spill(int g) {
        if (!house.hasGlass(g)) {
            return -6000;
        }
        house.take(g);
        return house.weight[g];
    }

    public int run(int n, int what) {
        int p = oneOf(what);
        if (isOutside(n, 0, 40) || isOutside(what, 0, 1) && !house.hasGuest(p)) {
            return -100000;
        }
        think();
        for (int i = 0; i < n; i++) {
            thought.passDay();
        }
        if (house.hasGuest(p)) {
            return what < 20 ? thought.mood[p] : thought.cold[p];
        }
        return what == 0 ? thought.glassesThere() : thought.moodOfAll();
    }

    public int goesOff(int g) {
        if (!house.hasGlass(g)) {
            return NO_GLASS;
        }
        think();
        for (int n = 1; n <= FARTHEST; n++) {
            thought.passDay();
            if (!thought.hasGlass(g)) {
                return n;
            }
        }
        return NONE;
    }

    public int worst(int p, int n, int what) {
        if (!house.hasGuest(p)) {
            return NO_GUEST;
        }
        if (isOutside(n, 1, 40) || isOutside(what, 0, 1)) {
            return WRONG_NUMBER;
        }
        int most = 0;
        int when = NONE;
        think();
        for (int i = 1; i <= n; i++) {
            int was = thought.mood[p];
            thought.passDay();
            int less = was - thought.mood[p];
            if (less > most) {
                most = less;
                when = i;
            }
        }
        return what == 0 ? when : most;
    }

    public int falls(int n, int below) {
        if (isOutside(n, 0, 40) || isOutside(below, -99, 99)) {
            return BAD;
        }
        think();
        int low = thought.guestsBelow(below);
        for (int i = 0; i < n; i++) {
            thought.passDay();
            low |= thought.guestsBelow(below);
        }
        return low;
    }

    // ---- what is best

    public int again(int much, int n, int what) {
        if (isOutside(much, 1, 99) || isOutside(n, 1, 20) || isOutside(what, 0, 1)) {
            return -1000;
        }
        int most = moodIfIced(0, much, n);
        int best = NONE;
        for (int g = 0; g < GLASSES; g++) {
            int then = house.hasGlass(g) ? moodIfIced(1 << g, much, n) : most;
            if (then > most) {
                most = then;
                best = g;
            }
        }
        return what == 0 ? best : most;
    }

    public int spilt(int n, int what) {
        if (isOutside(n, 1, 20) || isOutside(what, 0, 1)) {
            return -1000;
        }
        int most = moodIfSpilt(NONE, n);
        int best = NONE;
        for (int g = 0; g < GLASSES; g++) {
            int then = house.hasGlass(g) ? moodIfSpilt(g, n) : most;
            if (then > most) {
                most = then;
                best = g;
            }
        }
        return what == 0 ? best : most;
    }

    public int round(int much, int n, int what) {
        if (isOutside(much, 1, 99) || isOutside(n, 1, 10) || isOutside(what, 0, 1)) {
            return -1000;
        }
        int best = 0;
        for (int p = 0; p < house.guests; p++) {
            best |= roundOf(p, much, n);
        }
        return what == 0 ? best : moodIfIced(best, much, n);
    }

    public long mean(int part) {
        int glasses = house.glassesThere();
        if (isOutside(part, 0, 1) || glasses == 0) {
            return NO;
        }
        return inLowestTerms(house.weightOfAll(), glasses, part);
    }

    // ---- told days

    public int judge(int s, int p) {
        int refusal = refusalOfDays(s, p);
        if (refusal != 0) {
            return refusal;
        }
        think();
        return firstOtherwise(s, p);
    }

    public int kinds(int s, int p, int sort) {
        int refusal = refusalOfDays(s, p);
        if (refusal != 0) {
            return refusal;
        }
        if (isOutside(sort, 0, 1)) {
            return WRONG_NUMBER;
        }
        int fits = 0;
        for (int v = 0; v < (sort == 0 ? KINDS : MORES); v++) {
            think();
            thought.setKind(p, sort, v);
            if (firstOtherwise(s, p) == NONE) {
                fits |= 1 << v;
            }
        }
        return fits;
    }

    public int states(int s, int p, int sort, int what) {
        int refusal = refusalOfDays(s, p);
        if (refusal != 0) {
            return refusal - 1000;
        }
        if (isOutside(sort, 0, 1) || isOutside(what, 0, 1)) {
            return -7000;
        }
        int many = 0;
        int least = -1000;
        for (int v = sort == 0 ? -99 : 0; v <= 99; v++) {
            think();
            thought.set(p, sort, v);
            if (firstOtherwise(s, p) == NONE) {
                least = many == 0 ? v : least;
                many++;
            }
        }
        return what == 0 ? many : least;
    }

    public int owners(int s, int p) {
        int refusal = refusalOfDays(s, p);
        if (refusal != 0) {
            return refusal;
        }
        int fits = 0;
        for (int g = 0; g < GLASSES; g++) {
            if (house.hasGlass(g) && house.whose[g] != p) {
                think();
                thought.whose[g] = p;
                if (firstOtherwise(s, p) == NONE) {
                    fits |= 1 << g;
                }
            }
        }
        return fits;
    }

    public int who(int s) {
        int refusal = refusalOfSheet(s);
        if (refusal != 0) {
            return refusal;
        }
        int fits = 0;
        for (int p = 0; p < house.guests; p++) {
            think();
            if (firstOtherwise(s, p) == NONE) {
                fits |= 1 << p;
            }
        }
        return fits;
    }

    public int laws(int s, int p) {
        int refusal = refusalOfDays(s, p);
        if (refusal != 0) {
            return refusal;
        }
        int fits = 0;
        for (int t = 0; t < book.size; t++) {
            think();
            thought.law = t;
            if (firstOtherwise(s, p) == NONE) {
                fits |= 1 << t;
            }
        }
        return fits;
    }

    public int film(int s, int p, int n) {
        if (isNoSheet(s)) {
            return BAD;
        }
        if (!house.hasGuest(p)) {
            return NO_GUEST;
        }
        if (isOutside(n, 0, TOLD_DAYS)) {
            return WRONG_NUMBER;
        }
        sheets[s].renew(BYTES, n);
        think();
        for (int i = 0; i < n; i++) {
            thought.passDay();
            sheets[s].write(i, thought.mood[p]);
        }
        return n;
    }

    // ---- orders by lots

    public int drawn(int seed, int what) {
        if (isOutside(seed, 0, LAST_SEED) || isOutside(what, 0, 1)) {
            return -1000;
        }
        thinkOfLots(seed);
        return what == 0 ? thought.moodOfAll() : thought.glassesThere();
    }

    public long odds(int seed, int seeds, int least, int part) {
        if (isOutside(seed, 0, LAST_SEED) || isOutside(seeds, 1, 40)
                || isOutside(least, -999, 999) || isOutside(part, 0, 1)) {
            return NO;
        }
        int many = 0;
        for (int i = 0; i < seeds; i++) {
            thinkOfLots(seed + i);
            if (thought.moodOfAll() >= least) {
                many++;
            }
        }
        return inLowestTerms(many, seeds, part);
    }

    public int image() {
        kept.become(house);
        isKept = true;
        return house.guests;
    }

    public int back() {
        if (!isKept) {
            return STATE;
        }
        house.become(kept);
        return house.guests;
    }

    // ---- the host

    public int sheet(int s, int sort, int n) {
        if (isNoSheet(s) || isOutside(sort, MISSING, INTS)) {
            return BAD;
        }
        if (sort == MISSING) {
            sheets[s].renew(MISSING, 0);
            return 1;
        }
        if (n > CELLS) {
            return BAD;
        }
        if (n < 0) {
            return BELOW_ZERO;
        }
        sheets[s].renew(sort, n);
        return 1;
    }

    public int cell(int s, int i, int v) {
        if (isNoSheet(s)) {
            return BAD;
        }
        if (sheets[s].sort == MISSING) {
            return NOTHING_THERE;
        }
        if (!sheets[s].has(i)) {
            return OUTSIDE;
        }
        sheets[s].write(i, v);
        return 1;
    }

    public int copy(int s, int i, int other, int j, int n) {
        if (isNoSheet(s) || isNoSheet(other)) {
            return BAD;
        }
        Sheet from = sheets[s];
        Sheet to = sheets[other];
        if (from.sort == MISSING || to.sort == MISSING) {
            return NOTHING_THERE;
        }
        if (from.sort != to.sort) {
            return OTHER_SORT;
        }
        if (n < 0 || isOutside(i, 0, from.size - n) || isOutside(j, 0, to.size - n)) {
            return OUTSIDE;
        }
        System.arraycopy(from.cells, i, to.cells, j, n);
        return n;
    }

    public int guestsBy(int s, int sort, int from, int n) {
        if (isNoSheet(s) || isOutside(sort, BYTES, INTS) || isOutside(n, 0, GUESTS)) {
            return BAD;
        }
        Sheet list = sheets[s];
        if (list.sort == MISSING) {
            return NOTHING_THERE;
        }
        if (list.sort != sort) {
            return OTHER_SORT;
        }
        int came = 0;
        int at = from;
        for (int k = 0; k < n; k++) {
            if (!list.has(at) || !list.has(at + 1)) {
                return OUTSIDE;
            }
            if (house.admit(list.cells[at], list.cells[at + 1]) >= 0) {
                came++;
            }
            at += 2;
        }
        return came;
    }

    public int taken(int i, int kind) {
        if (isOutside(kind, 0, KINDS)) {
            return -200;
        }
        if (isOutside(i, 0, GUESTS + GLASSES - 1)) {
            return -1200;
        }
        boolean isGuest = house.hasGuest(i);
        boolean isGlass = house.hasGlass(i - GUESTS);
        if (!isGuest && !isGlass) {
            return -1100;
        }
        if (isGlass && kind == KINDS) {
            return house.weight[i - GUESTS];
        }
        if (isGuest && isOfKind(house.kind[i], kind)) {
            return i;
        }
        return -1300;
    }

    // ---- what the calls share

    private static boolean isOutside(int v, int low, int high) {
        return v < low || v > high;
    }

    private static boolean isNoByte(int v) {
        return isOutside(v, 0, 255);
    }

    private static boolean isNoSheet(int s) {
        return isOutside(s, 0, SHEETS - 1);
    }

    private static int bounded(int v, int low, int high) {
        return Math.max(low, Math.min(high, v));
    }

    private static boolean isOfKind(int kind, int wanted) {
        int above = kind;
        for (int i = 0; i < KINDS && !isOutside(above, 0, KINDS - 1); i++) {
            if (above == wanted) {
                return true;
            }
            above = KIND_ABOVE[above];
        }
        return false;
    }

    /** Of which guest run() is asked; none, if of no one guest. */
    private static int oneOf(int what) {
        if (isOutside(what, 10, 29)) {
            return NONE;
        }
        return what % 10;
    }

    /** Of sets with like moods the smaller one is ahead, or the one without the first glass that only one has. */
    private static boolean isAhead(int set, int other) {
        int more = Integer.bitCount(set) - Integer.bitCount(other);
        if (more != 0) {
            return more < 0;
        }
        int unlike = set ^ other;
        return (other & unlike & -unlike) != 0;
    }

    private static long inLowestTerms(int above, int below, int part) {
        int a = Math.abs(above);
        int divisor = below;
        for (int i = 0; i < 64 && a != 0; i++) {
            int rest = divisor % a;
            divisor = a;
            a = rest;
        }
        if (divisor == 0) {
            return NO;
        }
        return part == 0 ? above / divisor : below / divisor;
    }

    private void think() {
        thought.become(house);
    }

    private int nextOff(int glasses) {
        think();
        for (int i = 0; i < FARTHEST; i++) {
            int off = thought.passDay() & glasses;
            if (off != 0) {
                return Integer.numberOfTrailingZeros(off);
            }
        }
        return NONE;
    }

    private int moodIfIced(int set, int much, int n) {
        think();
        for (int g = 0; g < GLASSES; g++) {
            if ((set >> g & 1) != 0) {
                thought.addIce(g, much);
            }
        }
        for (int i = 0; i < n; i++) {
            thought.passDay();
        }
        return thought.moodOfAll();
    }

    /** One's best set. Nobody's glasses touch another's mood: so all the best ones, together, are round()'s. */
    private int roundOf(int p, int much, int n) {
        int own = house.glassesOf(p);
        int best = 0;
        int most = moodIfIced(0, much, n);
        for (int set = 1; set <= own; set++) {
            if ((set & own) == set) {
                int then = moodIfIced(set, much, n);
                if (then > most || then == most && isAhead(set, best)) {
                    most = then;
                    best = set;
                }
            }
        }
        return best;
    }

    private int moodIfSpilt(int g, int n) {
        think();
        if (thought.hasGlass(g)) {
            thought.take(g);
        }
        for (int i = 0; i < n; i++) {
            thought.passDay();
        }
        return thought.moodOfAll();
    }

    private int refusalOfSheet(int s) {
        if (isNoSheet(s)) {
            return BAD;
        }
        if (sheets[s].sort == MISSING) {
            return NOTHING_THERE;
        }
        return sheets[s].size > TOLD_DAYS ? BAD : 0;
    }

    /** 0: the sheet tells days of a guest that is there. */
    private int refusalOfDays(int s, int p) {
        int refusal = refusalOfSheet(s);
        if (refusal != 0) {
            return refusal;
        }
        return house.hasGuest(p) ? 0 : NO_GUEST;
    }

    /** Plays on what is thought of now, so that kinds() and the others can change it ahead. */
    private int firstOtherwise(int s, int p) {
        Sheet days = sheets[s];
        for (int i = 0; i < days.size; i++) {
            thought.passDay();
            if (thought.mood[p] != days.cells[i]) {
                return i;
            }
        }
        return NONE;
    }

    private void thinkOfLots(int seed) {
        think();
        long lot = seed + 1L;
        for (int i = 0; i < DRAWN_DAYS; i++) {
            lot = lotBehind(lot);
            int p = (int) (lot % GUESTS);
            lot = lotBehind(lot);
            int heavy = (int) (lot % 199) - 99;
            lot = lotBehind(lot);
            int much = 1 + (int) (lot % 99);
            if (thought.hasGuest(p)) {
                thought.serve(p, heavy, much);
            }
            thought.passDay();
        }
    }

    private static long lotBehind(long lot) {
        return lot * 48271L % 2147483647L;
    }

    /** All that days change: guests, glasses, the day, and by which law. */
    private static final class House {
        private static final int NOBODY = -1;
        final Lawbook book;
        int guests;
        final int[] kind = new int[GUESTS];
        final int[] more = new int[GUESTS];
        final int[] mood = new int[GUESTS];
        final int[] cold = new int[GUESTS];
        /** Whose a glass is; nobody's, if it isn't there. */
        final int[] whose = new int[GLASSES];
        final int[] weight = new int[GLASSES];
        final int[] ice = new int[GLASSES];
        int date;
        int law;

        House(Lawbook book) {
            this.book = book;
            Arrays.fill(whose, NOBODY);
        }

        void become(House other) {
            guests = other.guests;
            System.arraycopy(other.kind, 0, kind, 0, GUESTS);
            System.arraycopy(other.more, 0, more, 0, GUESTS);
            System.arraycopy(other.mood, 0, mood, 0, GUESTS);
            System.arraycopy(other.cold, 0, cold, 0, GUESTS);
            System.arraycopy(other.whose, 0, whose, 0, GLASSES);
            System.arraycopy(other.weight, 0, weight, 0, GLASSES);
            System.arraycopy(other.ice, 0, ice, 0, GLASSES);
            date = other.date;
            law = other.law;
        }

        boolean hasGuest(int p) {
            return p >= 0 && p < guests;
        }

        boolean hasGlass(int g) {
            return g >= 0 && g < GLASSES && hasGuest(whose[g]);
        }

        int glassesThere() {
            int many = 0;
            for (int g = 0; g < GLASSES; g++) {
                if (hasGlass(g)) {
                    many++;
                }
            }
            return many;
        }

        int glassesOf(int p) {
            int bits = 0;
            for (int g = 0; g < GLASSES; g++) {
                if (hasGlass(g) && whose[g] == p) {
                    bits |= 1 << g;
                }
            }
            return bits;
        }

        int guestsBelow(int least) {
            int bits = 0;
            for (int p = 0; p < guests; p++) {
                if (mood[p] < least) {
                    bits |= 1 << p;
                }
            }
            return bits;
        }

        int moodOfAll() {
            int all = 0;
            for (int p = 0; p < guests; p++) {
                all += mood[p];
            }
            return all;
        }

        int weightOfAll() {
            int all = 0;
            for (int g = 0; g < GLASSES; g++) {
                if (hasGlass(g)) {
                    all += weight[g];
                }
            }
            return all;
        }

        int admit(int kindMore, int moods) {
            if (isOutside(kindMore, 0, KINDS * MORES - 1) || isOutside(moods, -99, 99)) {
                return BAD;
            }
            if (guests >= GUESTS) {
                return FULL;
            }
            kind[guests] = kindMore / MORES;
            more[guests] = kindMore % MORES;
            mood[guests] = moods;
            cold[guests] = 0;
            guests++;
            return guests - 1;
        }

        /** MOOD (what 0) or COLD (1) of a guest. */
        void set(int p, int what, int v) {
            if (what == 0) {
                mood[p] = v;
            } else {
                cold[p] = v;
            }
        }

        /** KIND (what 0) or MORE (1) of a guest. */
        void setKind(int p, int what, int v) {
            if (what == 0) {
                kind[p] = v;
            } else {
                more[p] = v;
            }
        }

        int serve(int p, int heavy, int much) {
            for (int g = 0; g < GLASSES; g++) {
                if (!hasGlass(g)) {
                    whose[g] = p;
                    weight[g] = heavy;
                    ice[g] = much;
                    cold[p] = Math.min(99, cold[p] + chilling(g));
                    return g;
                }
            }
            return FULL;
        }

        void take(int g) {
            whose[g] = NOBODY;
        }

        void addIce(int g, int much) {
            ice[g] = Math.min(99, ice[g] + much);
        }

        /** The glasses that go off, as bits. */
        int passDay() {
            int off = 0;
            for (int g = 0; g < GLASSES; g++) {
                if (hasGlass(g)) {
                    ice[g] = Math.max(0, ice[g] - melting(g));
                    if (ice[g] == 0) {
                        int p = whose[g];
                        mood[p] = bounded(mood[p] + feeling(g), -99, 99);
                        take(g);
                        off |= 1 << g;
                    }
                }
            }
            for (int p = 0; p < guests; p++) {
                cold[p] = Math.max(0, cold[p] - 2);
            }
            date++;
            return off;
        }

        int saying(int part, int g) {
            int p = whose[g];
            book.name(weight[g], ice[g], cold[p], mood[p], date, more[p]);
            return bounded(book.reckon(law, part), part == FEELS ? -99 : 0, 99);
        }

        int melting(int g) {
            int p = whose[g];
            int said = saying(MELTS, g);
            switch (kind[p]) {
                case GENTLEMAN: return said + more[p];
                case BRIDE: return date % 7 == more[p] ? 99 : said;
                case LADY: return cold[p] > 20 ? (said + more[p]) / 3 : said + more[p];
                case WAITER: return more[p];
                default: return said;
            }
        }

        int feeling(int g) {
            int p = whose[g];
            int said = saying(FEELS, g);
            int asFather = said > 0 ? said + more[p] : said;
            switch (kind[p]) {
                case FATHER: return asFather;
                case GENTLEMAN:
                case LADY: return cold[p] > 50 ? 0 : said / 2;
                case BRIDE: return 2 * asFather;
                case WAITER: return -said;
                default: return said;
            }
        }

        int chilling(int g) {
            int p = whose[g];
            int said = saying(CHILLS, g);
            switch (kind[p]) {
                case FATHER:
                case BRIDE: return said / 2;
                case LADY: return said + more[p];
                default: return said;
            }
        }
    }

    /** What a text says: its three parts one behind the other, each as signs behind what they join. */
    private static final class Text {
        final int[] code;
        final int[] ends;

        Text(int[] code, int[] ends) {
            this.code = code;
            this.ends = ends;
        }
    }

    /** The texts, and the reckoning by them. */
    private static final class Lawbook {
        /** Five things open with five signs waiting in each, and the last one: 31 at most lie on it. */
        private static final int DEEPEST = 40;
        private final Text[] texts = new Text[TEXTS];
        private final int[] named = new int[Tape.NAMES];
        private final int[] pile = new int[DEEPEST];
        int size;

        int add(Text text) {
            if (size >= TEXTS) {
                return FULL;
            }
            texts[size] = text;
            size++;
            return size - 1;
        }

        /** What the six names stand for, in their order. */
        void name(int weight, int ice, int cold, int mood, int day, int more) {
            named[0] = weight;
            named[1] = ice;
            named[2] = cold;
            named[3] = mood;
            named[4] = day;
            named[5] = more;
        }

        int reckon(int t, int part) {
            if (isOutside(t, 0, size - 1) || isOutside(part, MELTS, CHILLS) || texts[t] == null) {
                return 0;
            }
            int[] code = texts[t].code;
            int from = part == MELTS ? 0 : texts[t].ends[part - 1];
            int to = texts[t].ends[part];
            int high = 0;
            for (int i = from; i < to && high < DEEPEST; i++) {
                int sign = code[i] - Tape.SIGNS;
                if (sign < 0) {
                    pile[high++] = code[i];
                } else if (Tape.isName(sign)) {
                    pile[high++] = named[sign - Tape.WEIGHT];
                } else if (Tape.isTurn(sign) && high >= 1) {
                    pile[high - 1] = turned(sign, pile[high - 1]);
                } else if (high >= 2) {
                    high--;
                    pile[high - 1] = joined(pile[high - 1], sign, pile[high]);
                }
            }
            return pile[0];
        }

        private static int turned(int sign, int a) {
            if (sign == Tape.NOT) {
                return a == 0 ? 1 : 0;
            }
            return -a;
        }

        private static int joined(int a, int sign, int b) {
            switch (sign) {
                case Tape.OR: return a != 0 || b != 0 ? 1 : 0;
                case Tape.AND: return a != 0 && b != 0 ? 1 : 0;
                case '<': return a < b ? 1 : 0;
                case '=': return a == b ? 1 : 0;
                case '+': return a + b;
                case '-': return a - b;
                default: return a * b;
            }
        }
    }

    /** The tape, and the reading of a text from it. */
    private static final class Tape {
        /** Tokens: a word is its place here, a sign its byte; these and the signs never meet. */
        private static final String WORDS = "meltsfeelschillsorandnotweighticecoldmooddaymore";
        private static final int[] WORD_AT = {0, 5, 10, 16, 18, 21, 24, 30, 33, 37, 41, 44, 48};
        private static final String SIGN_BYTES = "();+-*<=";
        static final int OR = 3, AND = 4, NOT = 5, WEIGHT = 6, NAMES = 6;
        private static final int ALL_WORDS = 12, NUMBER = 12, END = 13, WRONG = 14;
        static final int LESS_ONE = 15;
        /** In code a number is itself, and a token is so much more: numbers have four digits. */
        static final int SIGNS = 10000;
        private static final int DIGITS = 4, OPEN = 5;
        private static final int EITHER = 0, BOTH = 1, COMPARED = 2, SUM = 3, PRODUCT = 4;

        private final int[] bytes = new int[TAPE];
        int size;
        private int at;
        private int token;
        private int number;
        /** Where the token begins: if it can't stand there, that is the fault. */
        int place;
        private final int[] code = new int[TAPE];
        private int codes;
        private final int[] ends = new int[3];

        void add(int b) {
            if (size < TAPE) {
                bytes[size] = b;
                size++;
            }
        }

        void empty() {
            size = 0;
        }

        static boolean isName(int sign) {
            return sign >= WEIGHT && sign < WEIGHT + NAMES;
        }

        /** Signs that stand ahead of one thing, and join none. */
        static boolean isTurn(int sign) {
            return sign == NOT || sign == LESS_ONE;
        }

        Text written() {
            return new Text(Arrays.copyOf(code, codes), Arrays.copyOf(ends, ends.length));
        }

        /** False: the token at place can't stand there. */
        boolean isRead() {
            at = 0;
            codes = 0;
            next();
            for (int part = MELTS; part <= CHILLS; part++) {
                if (token != part) {
                    return false;
                }
                next();
                if (!readLevel(EITHER, 0) || token != ';') {
                    return false;
                }
                next();
                ends[part] = codes;
            }
            return token == END;
        }

        /** Signs of a level join what stands a level deeper; or binds least, * most. */
        private boolean readLevel(int level, int open) {
            if (level > PRODUCT) {
                return readOne(open);
            }
            if (level == COMPARED && token == NOT) {
                return readTurned(open, NOT);
            }
            boolean good = readLevel(level + 1, open);
            int most = level == COMPARED ? 1 : TAPE;
            for (int i = 0; i < most && good && joins(level); i++) {
                int sign = token;
                next();
                good = readLevel(level + 1, open);
                write(SIGNS + sign);
            }
            return good;
        }

        private boolean joins(int level) {
            switch (level) {
                case EITHER: return token == OR;
                case BOTH: return token == AND;
                case COMPARED: return token == '<' || token == '=';
                case SUM: return token == '+' || token == '-';
                default: return token == '*';
            }
        }

        private boolean readOne(int open) {
            if (token == '-') {
                return readTurned(open, LESS_ONE);
            }
            if (token == '(') {
                return readInner(open);
            }
            if (token != NUMBER && !isName(token)) {
                return false;
            }
            write(token == NUMBER ? number : SIGNS + token);
            next();
            return true;
        }

        /** A not, or a - ahead of a ONE, with what it belongs to. */
        private boolean readTurned(int open, int sign) {
            if (open >= OPEN) {
                return false;
            }
            next();
            boolean good = sign == NOT ? readLevel(COMPARED, open + 1) : readOne(open + 1);
            write(SIGNS + sign);
            return good;
        }

        private boolean readInner(int open) {
            if (open >= OPEN) {
                return false;
            }
            next();
            if (!readLevel(EITHER, open + 1) || token != ')') {
                return false;
            }
            next();
            return true;
        }

        private void write(int c) {
            if (codes < TAPE) {
                code[codes] = c;
                codes++;
            }
        }

        private void next() {
            while (at < size && (bytes[at] == ' ' || bytes[at] == '\n')) {
                at++;
            }
            place = at;
            if (at >= size) {
                token = END;
            } else if (isLetter(bytes[at])) {
                nextWord();
            } else if (isDigit(bytes[at])) {
                nextNumber();
            } else {
                token = SIGN_BYTES.indexOf((char) bytes[at]) >= 0 ? bytes[at] : WRONG;
                at++;
            }
        }

        private void nextWord() {
            while (at < size && isLetter(bytes[at])) {
                at++;
            }
            token = WRONG;
            for (int w = 0; w < ALL_WORDS; w++) {
                if (isWord(w)) {
                    token = w;
                }
            }
        }

        /** Is what stands from place till at that word? */
        private boolean isWord(int w) {
            int from = WORD_AT[w];
            if (at - place != WORD_AT[w + 1] - from) {
                return false;
            }
            for (int i = 0; i < at - place; i++) {
                if (bytes[place + i] != WORDS.charAt(from + i)) {
                    return false;
                }
            }
            return true;
        }

        private void nextNumber() {
            number = 0;
            while (at < size && isDigit(bytes[at])) {
                number = number * 10 + bytes[at] - '0';
                at++;
            }
            token = at - place > DIGITS ? WRONG : NUMBER;
        }

        private static boolean isLetter(int b) {
            return b >= 'a' && b <= 'z';
        }

        private static boolean isDigit(int b) {
            return b >= '0' && b <= '9';
        }
    }

    /** A row of numbers, or missing; its room is made once. */
    private static final class Sheet {
        int sort = MISSING;
        int size;
        final int[] cells = new int[CELLS];

        void renew(int newSort, int n) {
            sort = newSort;
            size = n;
            Arrays.fill(cells, 0);
        }

        boolean has(int i) {
            return i >= 0 && i < size;
        }

        void write(int i, int v) {
            cells[i] = sort == BYTES ? (byte) v : sort == SHORTS ? (short) v : v;
        }
    }
}
