import java.util.ArrayList;
import java.util.List;
import java.util.TreeMap;
import java.util.function.ToIntFunction;

/** The document once more, in another way: slow, with new objects for each thought. */
final class Model {
    // ---- texts: read ahead into tokens, then by a tree of functions

    record Scene(int weight, int ice, int cold, int mood, int day, int more) {
    }

    static final class Fault extends RuntimeException {
        private static final long serialVersionUID = 1L;
        final int place;

        Fault(int place) {
            this.place = place;
        }
    }

    record Token(String word, int place) {
    }

    static final class Reading {
        private final List<Token> tokens = new ArrayList<>();
        private int at = 0;
        private int open = 0;

        Reading(String text) {
            int i = 0;
            while (i < text.length()) {
                char c = text.charAt(i);
                int from = i++;
                if (c == ' ' || c == '\n') {
                    continue;
                }
                String set = Character.toString(c).matches("[a-z]") ? "[a-z]"
                        : Character.toString(c).matches("[0-9]") ? "[0-9]" : "";
                while (!set.isEmpty() && i < text.length() && text.substring(i, i + 1).matches(set)) {
                    i++;
                }
                tokens.add(new Token(text.substring(from, i), from));
            }
            tokens.add(new Token("", text.length()));
        }

        private boolean sees(String word) {
            return tokens.get(at).word().equals(word);
        }

        private Fault fault() {
            return new Fault(tokens.get(at).place());
        }

        private void take(String word) {
            if (!sees(word)) {
                throw fault();
            }
            at++;
        }

        List<ToIntFunction<Scene>> text() {
            List<ToIntFunction<Scene>> parts = new ArrayList<>();
            for (String key : List.of("melts", "feels", "chills")) {
                take(key);
                parts.add(either());
                take(";");
            }
            take("");
            return parts;
        }

        private ToIntFunction<Scene> either() {
            ToIntFunction<Scene> left = both();
            while (sees("or")) {
                take("or");
                ToIntFunction<Scene> a = left;
                ToIntFunction<Scene> b = both();
                left = s -> a.applyAsInt(s) != 0 || b.applyAsInt(s) != 0 ? 1 : 0;
            }
            return left;
        }

        private ToIntFunction<Scene> both() {
            ToIntFunction<Scene> left = not();
            while (sees("and")) {
                take("and");
                ToIntFunction<Scene> a = left;
                ToIntFunction<Scene> b = not();
                left = s -> a.applyAsInt(s) != 0 && b.applyAsInt(s) != 0 ? 1 : 0;
            }
            return left;
        }

        private void opens(String word) {
            if (open == 5) {
                throw fault();
            }
            take(word);
            open++;
        }

        private ToIntFunction<Scene> not() {
            if (sees("not")) {
                opens("not");
                ToIntFunction<Scene> a = not();
                open--;
                return s -> a.applyAsInt(s) == 0 ? 1 : 0;
            }
            ToIntFunction<Scene> a = sum();
            if (sees("<")) {
                take("<");
                ToIntFunction<Scene> b = sum();
                return s -> a.applyAsInt(s) < b.applyAsInt(s) ? 1 : 0;
            }
            if (sees("=")) {
                take("=");
                ToIntFunction<Scene> b = sum();
                return s -> a.applyAsInt(s) == b.applyAsInt(s) ? 1 : 0;
            }
            return a;
        }

        private ToIntFunction<Scene> sum() {
            ToIntFunction<Scene> left = term();
            while (sees("+") || sees("-")) {
                int sign = sees("+") ? 1 : -1;
                at++;
                ToIntFunction<Scene> a = left;
                ToIntFunction<Scene> b = term();
                left = s -> a.applyAsInt(s) + sign * b.applyAsInt(s);
            }
            return left;
        }

        private ToIntFunction<Scene> term() {
            ToIntFunction<Scene> left = one();
            while (sees("*")) {
                take("*");
                ToIntFunction<Scene> a = left;
                ToIntFunction<Scene> b = one();
                left = s -> a.applyAsInt(s) * b.applyAsInt(s);
            }
            return left;
        }

        private ToIntFunction<Scene> one() {
            if (sees("-")) {
                opens("-");
                ToIntFunction<Scene> a = one();
                open--;
                return s -> -a.applyAsInt(s);
            }
            if (sees("(")) {
                opens("(");
                ToIntFunction<Scene> a = either();
                take(")");
                open--;
                return a;
            }
            String word = tokens.get(at).word();
            if (word.matches("[0-9]{1,4}")) {
                at++;
                int n = Integer.parseInt(word);
                return s -> n;
            }
            ToIntFunction<Scene> name = switch (word) {
                case "weight" -> Scene::weight;
                case "ice" -> Scene::ice;
                case "cold" -> Scene::cold;
                case "mood" -> Scene::mood;
                case "day" -> Scene::day;
                case "more" -> Scene::more;
                default -> throw fault();
            };
            at++;
            return name;
        }
    }

    // ---- kinds, each as the kind above but for what is told

    static class Guest {
        int more;
        int mood;
        int cold;

        int melts(int said, int day) {
            return said;
        }

        int feels(int said) {
            return said;
        }

        int chills(int said) {
            return said;
        }
    }

    static class Father extends Guest {
        @Override
        int feels(int said) {
            return said > 0 ? said + more : said;
        }

        @Override
        int chills(int said) {
            return said / 2;
        }
    }

    static class Gentleman extends Guest {
        @Override
        int melts(int said, int day) {
            return super.melts(said, day) + more;
        }

        @Override
        int feels(int said) {
            return cold > 50 ? 0 : said / 2;
        }
    }

    static final class Bride extends Father {
        @Override
        int melts(int said, int day) {
            return day % 7 == more ? 99 : super.melts(said, day);
        }

        @Override
        int feels(int said) {
            return 2 * super.feels(said);
        }
    }

    static final class Lady extends Gentleman {
        @Override
        int melts(int said, int day) {
            return cold > 20 ? super.melts(said, day) / 3 : super.melts(said, day);
        }

        @Override
        int chills(int said) {
            return super.chills(said) + more;
        }
    }

    static final class Waiter extends Guest {
        @Override
        int melts(int said, int day) {
            return more;
        }

        @Override
        int feels(int said) {
            return 0 - said;
        }
    }

    static Guest born(int kind, int more, int mood, int cold) {
        Guest one = switch (kind) {
            case 0 -> new Guest();
            case 1 -> new Father();
            case 2 -> new Gentleman();
            case 3 -> new Bride();
            case 4 -> new Lady();
            default -> new Waiter();
        };
        one.more = more;
        one.mood = mood;
        one.cold = cold;
        return one;
    }

    static int kindOf(Guest one) {
        return one instanceof Bride ? 3 : one instanceof Father ? 1 : one instanceof Lady ? 4
                : one instanceof Gentleman ? 2 : one instanceof Waiter ? 5 : 0;
    }

    static final class Glass {
        int guest;
        int weight;
        int ice;
    }

    /** All that is changed by days. */
    static final class House {
        List<Guest> guests = new ArrayList<>();
        TreeMap<Integer, Glass> glasses = new TreeMap<>();
        int day;
        int law;
    }

    private static House twin(House h) {
        House t = new House();
        for (Guest one : h.guests) {
            t.guests.add(born(kindOf(one), one.more, one.mood, one.cold));
        }
        for (int g : h.glasses.keySet()) {
            Glass copy = new Glass();
            copy.guest = h.glasses.get(g).guest;
            copy.weight = h.glasses.get(g).weight;
            copy.ice = h.glasses.get(g).ice;
            t.glasses.put(g, copy);
        }
        t.day = h.day;
        t.law = h.law;
        return t;
    }

    private House house = new House();
    private House kept = null;
    private final List<List<ToIntFunction<Scene>>> texts = new ArrayList<>();
    private StringBuilder tape = new StringBuilder();
    private final int[] sorts = {-1, -1, -1, -1};
    private final List<List<Integer>> sheets = new ArrayList<>();

    Model() {
        texts.add(new Reading("melts 10 ; feels weight ; chills 5 ;").text());
        for (int s = 0; s < 4; s++) {
            sheets.add(new ArrayList<>());
        }
    }

    private static int clamp(int v, int low, int high) {
        return v < low ? low : v > high ? high : v;
    }

    private int says(House h, int part, Glass glass) {
        Guest one = h.guests.get(glass.guest);
        Scene scene = new Scene(glass.weight, glass.ice, one.cold, one.mood, h.day, one.more);
        int v = texts.get(h.law).get(part).applyAsInt(scene);
        return part == 1 ? clamp(v, -99, 99) : clamp(v, 0, 99);
    }

    private int ordered(House h, int p, int heavy, int much) {
        for (int g = 0; g < 10; g++) {
            if (!h.glasses.containsKey(g)) {
                Glass glass = new Glass();
                glass.guest = p;
                glass.weight = heavy;
                glass.ice = much;
                h.glasses.put(g, glass);
                Guest one = h.guests.get(p);
                one.cold = Math.min(99, one.cold + one.chills(says(h, 2, glass)));
                return g;
            }
        }
        return -4;
    }

    private int passed(House h) {
        int off = 0;
        for (int g : new ArrayList<>(h.glasses.keySet())) {
            Glass glass = h.glasses.get(g);
            Guest one = h.guests.get(glass.guest);
            glass.ice = Math.max(0, glass.ice - one.melts(says(h, 0, glass), h.day));
            if (glass.ice == 0) {
                one.mood = clamp(one.mood + one.feels(says(h, 1, glass)), -99, 99);
                h.glasses.remove(g);
                off += 1 << g;
            }
        }
        for (Guest one : h.guests) {
            one.cold = Math.max(0, one.cold - 2);
        }
        h.day++;
        return off;
    }

    private static int moods(House h) {
        return h.guests.stream().mapToInt(one -> one.mood).sum();
    }

    private House after(House h, int n) {
        House t = twin(h);
        for (int i = 0; i < n; i++) {
            passed(t);
        }
        return t;
    }

    private boolean isGuest(int p) {
        return p >= 0 && p < house.guests.size();
    }

    // ---- the face

    int count(int what) {
        return switch (what) {
            case 0 -> house.guests.size();
            case 1 -> house.glasses.size();
            case 2 -> house.day;
            case 3 -> texts.size();
            case 4 -> house.law;
            case 5 -> tape.length();
            default -> -2;
        };
    }

    int dawn(int v) {
        if (v < 0 || v > 999) {
            return -2;
        }
        int was = house.day;
        house.day = v;
        return was;
    }

    int feed(int n, int a, int b, int c, int d, int e) {
        int[] five = {a, b, c, d, e};
        boolean good = n >= 1 && n <= 5;
        for (int v : five) {
            good = good && v >= 0 && v <= 255;
        }
        if (!good) {
            return -2;
        }
        if (tape.length() + n > 160) {
            return -4;
        }
        for (int i = 0; i < n; i++) {
            tape.append((char) five[i]);
        }
        return tape.length();
    }

    int text() {
        if (texts.size() == 6) {
            return -4;
        }
        String text = tape.toString();
        tape = new StringBuilder();
        try {
            texts.add(new Reading(text).text());
            return texts.size() - 1;
        } catch (Fault fault) {
            return -100 - fault.place;
        }
    }

    int force(int t) {
        if (t < 0 || t >= texts.size()) {
            return -2;
        }
        int was = house.law;
        house.law = t;
        return was;
    }

    int asks(int part, int g) {
        return part < 0 || part > 2 || !house.glasses.containsKey(g) ? -1000 : says(house, part, house.glasses.get(g));
    }

    int guest(int kindMore, int moods) {
        if (kindMore < 0 || kindMore > 59 || moods < -99 || moods > 99) {
            return -2;
        }
        if (house.guests.size() == 6) {
            return -4;
        }
        house.guests.add(born(kindMore / 10, kindMore % 10, moods, 0));
        return house.guests.size() - 1;
    }

    int order(int p, int heavy, int much) {
        if (!isGuest(p)) {
            return -5;
        }
        if (heavy < -99 || heavy > 99 || much < 1 || much > 99) {
            return -7;
        }
        return ordered(house, p, heavy, much);
    }

    int put(int p, int what, int v) {
        if (!isGuest(p)) {
            return -5000;
        }
        Guest one = house.guests.get(p);
        if (what == 0 && v >= -99 && v <= 99) {
            int was = one.mood;
            one.mood = v;
            return was;
        }
        if (what == 1 && v >= 0 && v <= 99) {
            int was = one.cold;
            one.cold = v;
            return was;
        }
        return -7000;
    }

    int told(int p, int what) {
        if (!isGuest(p)) {
            return -5000;
        }
        Guest one = house.guests.get(p);
        int own = 0;
        int soonest = -1;
        for (int g : house.glasses.keySet()) {
            if (house.glasses.get(g).guest == p) {
                own |= 1 << g;
                int n = goesOff(g);
                if (n > 0 && (soonest < 0 || n < goesOff(soonest))) {
                    soonest = g;
                }
            }
        }
        return switch (what) {
            case 0 -> one.mood;
            case 1 -> one.cold;
            case 2 -> kindOf(one);
            case 3 -> one.more;
            case 4 -> own;
            case 5 -> soonest;
            default -> -7000;
        };
    }

    int glass(int g, int what) {
        Glass glass = house.glasses.get(g);
        if (glass == null) {
            return -6000;
        }
        Guest one = house.guests.get(glass.guest);
        return switch (what) {
            case 0 -> glass.guest;
            case 1 -> glass.weight;
            case 2 -> glass.ice;
            case 3 -> one.melts(says(house, 0, glass), house.day);
            case 4 -> one.feels(says(house, 1, glass));
            case 5 -> one.chills(says(house, 2, glass));
            default -> -7000;
        };
    }

    int day() {
        return house.day == 999 ? -3 : passed(house);
    }

    int iced(int g, int much) {
        if (!house.glasses.containsKey(g)) {
            return -6;
        }
        if (much < 0 || much > 99) {
            return -7;
        }
        Glass glass = house.glasses.get(g);
        glass.ice = Math.min(99, glass.ice + much);
        return glass.ice;
    }

    int spill(int g) {
        Glass glass = house.glasses.remove(g);
        return glass == null ? -6000 : glass.weight;
    }

    int run(int n, int what) {
        if (n < 0 || n > 40) {
            return -100000;
        }
        House then = after(house, n);
        if (what == 0) {
            return then.glasses.size();
        }
        if (what == 1) {
            return moods(then);
        }
        if (isGuest(what - 10) && what >= 10) {
            return then.guests.get(what - 10).mood;
        }
        if (what >= 20 && isGuest(what - 20)) {
            return then.guests.get(what - 20).cold;
        }
        return -100000;
    }

    int goesOff(int g) {
        if (!house.glasses.containsKey(g)) {
            return -6;
        }
        House t = twin(house);
        for (int n = 1; n <= 60; n++) {
            if ((passed(t) >> g & 1) == 1) {
                return n;
            }
        }
        return -1;
    }

    int worst(int p, int n, int what) {
        if (!isGuest(p)) {
            return -5;
        }
        if (n < 1 || n > 40 || what < 0 || what > 1) {
            return -7;
        }
        int when = -1;
        int most = 0;
        for (int i = n; i >= 1; i--) {
            int less = after(house, i - 1).guests.get(p).mood - after(house, i).guests.get(p).mood;
            if (less > 0 && less >= most) {
                most = less;
                when = i;
            }
        }
        return what == 0 ? when : most;
    }

    int falls(int n, int below) {
        if (n < 0 || n > 40 || below < -99 || below > 99) {
            return -2;
        }
        int bits = 0;
        for (int p = 0; p < house.guests.size(); p++) {
            for (int i = 0; i <= n; i++) {
                if (after(house, i).guests.get(p).mood < below) {
                    bits |= 1 << p;
                }
            }
        }
        return bits;
    }

    private int moodsIfIced(int set, int much, int n) {
        House t = twin(house);
        for (int g : t.glasses.keySet()) {
            if ((set >> g & 1) == 1) {
                t.glasses.get(g).ice = Math.min(99, t.glasses.get(g).ice + much);
            }
        }
        return moods(after(t, n));
    }

    int again(int much, int n, int what) {
        if (much < 1 || much > 99 || n < 1 || n > 20 || what < 0 || what > 1) {
            return -1000;
        }
        int so = run(n, 1);
        int most = so;
        for (int g : house.glasses.keySet()) {
            most = Math.max(most, moodsIfIced(1 << g, much, n));
        }
        if (what == 1) {
            return most;
        }
        for (int g : house.glasses.keySet()) {
            if (most > so && moodsIfIced(1 << g, much, n) == most) {
                return g;
            }
        }
        return -1;
    }

    int spilt(int n, int what) {
        if (n < 1 || n > 20 || what < 0 || what > 1) {
            return -1000;
        }
        int most = run(n, 1);
        int which = -1;
        for (int g : house.glasses.keySet()) {
            House t = twin(house);
            t.glasses.remove(g);
            int then = moods(after(t, n));
            if (then > most) {
                most = then;
                which = g;
            }
        }
        return what == 0 ? which : most;
    }

    /** A set in the order told: fewest ahead, then 0 (not of it) ahead of 1 (of it), by GLASS 0, 1, .. */
    private static String rank(int set) {
        StringBuilder rank = new StringBuilder();
        rank.append((char) ('a' + Integer.bitCount(set)));
        for (int g = 0; g < 10; g++) {
            rank.append(set >> g & 1);
        }
        return rank.toString();
    }

    int round(int much, int n, int what) {
        if (much < 1 || much > 99 || n < 1 || n > 10 || what < 0 || what > 1) {
            return -1000;
        }
        int there = 0;
        for (int g : house.glasses.keySet()) {
            there |= 1 << g;
        }
        int best = -1;
        int most = Integer.MIN_VALUE;
        for (int set = 0; set < 1024; set++) {
            if ((set & ~there) == 0) {
                int then = moodsIfIced(set, much, n);
                if (then > most || then == most && rank(set).compareTo(rank(best)) < 0) {
                    most = then;
                    best = set;
                }
            }
        }
        return what == 0 ? best : most;
    }

    private static long lowest(long above, long below, int part) {
        for (long d = below; d > 1; d--) {
            if (above % d == 0 && below % d == 0) {
                return part == 0 ? above / d : below / d;
            }
        }
        return part == 0 ? above : below;
    }

    long mean(int part) {
        if (part < 0 || part > 1 || house.glasses.isEmpty()) {
            return -4611686018427387904L;
        }
        int all = house.glasses.values().stream().mapToInt(glass -> glass.weight).sum();
        return lowest(all, house.glasses.size(), part);
    }

    private int refusal(int s) {
        return s < 0 || s > 3 ? -2 : sorts[s] == -1 ? -11 : sheets.get(s).size() > 20 ? -2 : 0;
    }

    private int refusal(int s, int p) {
        return refusal(s) != 0 ? refusal(s) : isGuest(p) ? 0 : -5;
    }

    private int judged(House h, int s, int p) {
        House t = twin(h);
        int i = 0;
        for (int v : sheets.get(s)) {
            passed(t);
            if (t.guests.get(p).mood != v) {
                return i;
            }
            i++;
        }
        return -1;
    }

    int judge(int s, int p) {
        return refusal(s, p) != 0 ? refusal(s, p) : judged(house, s, p);
    }

    int kinds(int s, int p, int sort) {
        if (refusal(s, p) != 0) {
            return refusal(s, p);
        }
        if (sort != 0 && sort != 1) {
            return -7;
        }
        int bits = 0;
        for (int v = 0; v < (sort == 0 ? 6 : 10); v++) {
            House t = twin(house);
            Guest one = t.guests.get(p);
            t.guests.set(p, born(sort == 0 ? v : kindOf(one), sort == 0 ? one.more : v, one.mood, one.cold));
            if (judged(t, s, p) == -1) {
                bits |= 1 << v;
            }
        }
        return bits;
    }

    int states(int s, int p, int sort, int what) {
        if (refusal(s, p) != 0) {
            return refusal(s, p) - 1000;
        }
        if (sort < 0 || sort > 1 || what < 0 || what > 1) {
            return -7000;
        }
        List<Integer> fits = new ArrayList<>();
        for (int v = sort == 0 ? -99 : 0; v <= 99; v++) {
            House t = twin(house);
            if (sort == 0) {
                t.guests.get(p).mood = v;
            } else {
                t.guests.get(p).cold = v;
            }
            if (judged(t, s, p) == -1) {
                fits.add(v);
            }
        }
        return what == 0 ? fits.size() : fits.isEmpty() ? -1000 : fits.get(0);
    }

    int owners(int s, int p) {
        if (refusal(s, p) != 0) {
            return refusal(s, p);
        }
        int bits = 0;
        for (int g : house.glasses.keySet()) {
            House t = twin(house);
            t.glasses.get(g).guest = p;
            if (house.glasses.get(g).guest != p && judged(t, s, p) == -1) {
                bits |= 1 << g;
            }
        }
        return bits;
    }

    int who(int s) {
        if (refusal(s) != 0) {
            return refusal(s);
        }
        int bits = 0;
        for (int p = 0; p < house.guests.size(); p++) {
            bits |= judged(house, s, p) == -1 ? 1 << p : 0;
        }
        return bits;
    }

    int laws(int s, int p) {
        if (refusal(s, p) != 0) {
            return refusal(s, p);
        }
        int bits = 0;
        for (int t = 0; t < texts.size(); t++) {
            House other = twin(house);
            other.law = t;
            bits |= judged(other, s, p) == -1 ? 1 << t : 0;
        }
        return bits;
    }

    int film(int s, int p, int n) {
        if (s < 0 || s > 3) {
            return -2;
        }
        if (!isGuest(p)) {
            return -5;
        }
        if (n < 0 || n > 20) {
            return -7;
        }
        List<Integer> days = new ArrayList<>();
        for (int i = 1; i <= n; i++) {
            days.add(after(house, i).guests.get(p).mood);
        }
        sorts[s] = 0;
        sheets.set(s, days);
        return n;
    }

    private House byLots(int seed) {
        House t = twin(house);
        long lot = (seed + 1L) * 48271 % 2147483647;
        for (int i = 0; i < 8; i++) {
            int p = (int) (lot % 6);
            lot = lot * 48271 % 2147483647;
            int heavy = (int) (lot % 199 - 99);
            lot = lot * 48271 % 2147483647;
            int much = (int) (1 + lot % 99);
            lot = lot * 48271 % 2147483647;
            if (isGuest(p)) {
                ordered(t, p, heavy, much);
            }
            passed(t);
        }
        return t;
    }

    int drawn(int seed, int what) {
        if (seed < 0 || seed > 99999 || what < 0 || what > 1) {
            return -1000;
        }
        return what == 0 ? moods(byLots(seed)) : byLots(seed).glasses.size();
    }

    long odds(int seed, int seeds, int least, int part) {
        if (seed < 0 || seed > 99999 || seeds < 1 || seeds > 40 || least < -999 || least > 999 || part < 0 || part > 1) {
            return -4611686018427387904L;
        }
        int many = 0;
        for (int i = seed; i < seed + seeds; i++) {
            many += moods(byLots(i)) >= least ? 1 : 0;
        }
        return lowest(many, seeds, part);
    }

    int image() {
        kept = twin(house);
        return kept.guests.size();
    }

    int back() {
        if (kept == null) {
            return -3;
        }
        house = twin(kept);
        return house.guests.size();
    }

    int sheet(int s, int sort, int n) {
        if (s < 0 || s > 3 || sort < -1 || sort > 2 || sort >= 0 && n > 40) {
            return -2;
        }
        if (sort >= 0 && n < 0) {
            return -14;
        }
        sorts[s] = sort;
        sheets.set(s, new ArrayList<>());
        for (int i = 0; sort >= 0 && i < n; i++) {
            sheets.get(s).add(0);
        }
        return 1;
    }

    int cell(int s, int i, int v) {
        if (s < 0 || s > 3) {
            return -2;
        }
        if (sorts[s] == -1) {
            return -11;
        }
        if (i < 0 || i >= sheets.get(s).size()) {
            return -12;
        }
        int bits = sorts[s] == 0 ? 24 : sorts[s] == 1 ? 16 : 0;
        sheets.get(s).set(i, v << bits >> bits);
        return 1;
    }

    int copy(int s, int i, int other, int j, int n) {
        if (s < 0 || s > 3 || other < 0 || other > 3) {
            return -2;
        }
        if (sorts[s] == -1 || sorts[other] == -1) {
            return -11;
        }
        if (sorts[s] != sorts[other]) {
            return -13;
        }
        long endHere = (long) i + n;
        long endThere = (long) j + n;
        if (n < 0 || i < 0 || j < 0 || endHere > sheets.get(s).size() || endThere > sheets.get(other).size()) {
            return -12;
        }
        List<Integer> were = new ArrayList<>(sheets.get(s).subList(i, i + n));
        for (int k = 0; k < n; k++) {
            sheets.get(other).set(j + k, were.get(k));
        }
        return n;
    }

    int guestsBy(int s, int sort, int from, int n) {
        if (s < 0 || s > 3 || sort < 0 || sort > 2 || n < 0 || n > 6) {
            return -2;
        }
        if (sorts[s] == -1) {
            return -11;
        }
        if (sorts[s] != sort) {
            return -13;
        }
        int came = 0;
        for (long at = from; at < from + 2L * n; at += 2) {
            if (at < 0 || at + 1 >= sheets.get(s).size()) {
                return -12;
            }
            came += guest(sheets.get(s).get((int) at), sheets.get(s).get((int) at + 1)) < 0 ? 0 : 1;
        }
        return came;
    }

    int taken(int i, int kind) {
        if (kind < 0 || kind > 6) {
            return -200;
        }
        if (i < 0 || i > 15) {
            return -1200;
        }
        if (i < 6 ? !isGuest(i) : !house.glasses.containsKey(i - 6)) {
            return -1100;
        }
        if (i >= 6) {
            return kind == 6 ? house.glasses.get(i - 6).weight : -1300;
        }
        Guest one = house.guests.get(i);
        boolean is = switch (kind) {
            case 0 -> true;
            case 1 -> one instanceof Father;
            case 2 -> one instanceof Gentleman;
            case 3 -> one instanceof Bride;
            case 4 -> one instanceof Lady;
            case 5 -> one instanceof Waiter;
            default -> false;
        };
        return is ? i : -1300;
    }
}
