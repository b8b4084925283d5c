import java.math.BigInteger;
import java.util.ArrayList;
import java.util.Arrays;
import java.util.HashMap;
import java.util.List;
import java.util.Map;

/**
 * The document once more, as plainly as it can be written: every world by itself, laws as trees, whole copies of all
 * that goes on. Tests hold WhichBin against it.
 */
final class Model {
    static final class Fault extends RuntimeException {
        final int number;
        final int place;

        Fault(int number, int place) {
            super(null, null, false, false);
            this.number = number;
            this.place = place;
        }
    }

    static final class DividedByZero extends RuntimeException {
        DividedByZero() {
            super(null, null, false, false);
        }
    }

    static final class Token {
        final String text;
        final int start;

        Token(String text, int start) {
            this.text = text;
            this.start = start;
        }
    }

    /** A tree: INT, VAR or a sign with two parts. */
    static final class E {
        String sign;
        E left;
        E right;
        int number;
        String var;

        int value(Map<String, Integer> vars) {
            if (var != null) {
                return vars.get(var);
            }
            if (sign == null) {
                return number;
            }
            int l = left.value(vars);
            int r = right.value(vars);
            switch (sign) {
                case "+":
                    return l + r;
                case "-":
                    return l - r;
                case "*":
                    return l * r;
                default:
                    if (r == 0) {
                        throw new DividedByZero();
                    }
                    return l / r;
            }
        }
    }

    static final class House {
        String name;
        int sure;
        int sees;
        String habit;
        int as = -1;
        final List<E[]> ifs = new ArrayList<>();
        E last;
    }

    static final class Text {
        final List<House> houses = new ArrayList<>();
        int brown = 5;
        int fine = 10;
        int both = 5;
        int leaflet = 3;
        int seed = 0;
    }

    // ---- the text

    static final List<String> WORDS = Arrays.asList("house", "brown", "fine", "both", "leaflet", "seed", "own", "most",
            "first", "as", "wise", "two", "if", "then", "else", "sign", "browns", "blues", "sees", "sure", "number",
            "lead");
    static final List<String> VARS = Arrays.asList("sign", "browns", "blues", "sees", "sure", "number", "lead");

    static final class Parser {
        final String bytes;
        final Text text = new Text();
        final List<Fault> later = new ArrayList<>();
        int position = 0;
        int taken = 0;
        int open = 0;
        Token next;

        Parser(String bytes) {
            this.bytes = bytes;
            next = cut();
        }

        Token cut() {
            while (position < bytes.length() && "\t\n\r ".indexOf(bytes.charAt(position)) >= 0) {
                position++;
            }
            int start = position;
            if (start == bytes.length()) {
                return new Token("", start);
            }
            String rest = bytes.substring(start);
            String word = rest.replaceFirst("(?s)[^a-z].*", "");
            String number = rest.replaceFirst("(?s)[^0-9].*", "");
            String token = word.isEmpty() ? number.isEmpty() ? rest.substring(0, 1) : number : word;
            if (word.length() > 8 || number.length() > 4 || !token.matches("[a-z]+|[0-9]+|[;=+*/<()-]")) {
                return new Token("?", start);
            }
            position += token.length();
            return new Token(token, start);
        }

        boolean isName() {
            return next.text.matches("[a-z]+") && !WORDS.contains(next.text);
        }

        boolean isInt() {
            return next.text.matches("[0-9]+");
        }

        boolean is(String word) {
            return next.text.equals(word);
        }

        Fault fault(int number) {
            return new Fault(number, next.start);
        }

        String take(boolean fits) {
            if (!fits) {
                throw fault(1);
            }
            taken++;
            if (taken > 400) {
                throw fault(2);
            }
            String text = next.text;
            next = cut();
            return text;
        }

        int takeInt(int most) {
            if (isInt() && Integer.parseInt(next.text) > most) {
                later.add(fault(5));
            }
            return Integer.parseInt(take(isInt()));
        }

        Text parse() {
            while (!is("")) {
                tell();
            }
            if (!later.isEmpty()) {
                throw later.get(0);
            }
            return text;
        }

        void tell() {
            if (is("house")) {
                house();
            } else {
                boolean known = is("brown") || is("fine") || is("both") || is("leaflet") || is("seed");
                switch (take(known)) {
                    case "brown":
                        text.brown = takeInt(10);
                        break;
                    case "fine":
                        text.fine = takeInt(30);
                        break;
                    case "both":
                        text.both = takeInt(30);
                        break;
                    case "leaflet":
                        text.leaflet = takeInt(999);
                        break;
                    default:
                        text.seed = takeInt(9999);
                        break;
                }
            }
            take(is(";"));
        }

        int find(String name) {
            for (int i = 0; i < text.houses.size(); i++) {
                if (text.houses.get(i).name.equals(name)) {
                    return i;
                }
            }
            return -1;
        }

        void house() {
            if (text.houses.size() == 6) {
                throw fault(2);
            }
            take(true);
            House house = new House();
            if (isName() && find(next.text) >= 0) {
                later.add(fault(3));
            }
            house.name = take(isName());
            house.sure = takeInt(10);
            house.sees = takeInt(6);
            if (is("=")) {
                house.habit = "law";
                law(house);
            } else {
                house.habit = take(Arrays.asList("own", "most", "first", "as", "wise", "two").contains(next.text));
                if (house.habit.equals("as")) {
                    if (isName() && find(next.text) < 0) {
                        later.add(fault(4));
                    }
                    house.as = find(next.text);
                    take(isName());
                }
            }
            text.houses.add(house);
        }

        void law(House house) {
            take(is("="));
            while (is("if")) {
                if (house.ifs.size() == 4) {
                    throw fault(2);
                }
                take(true);
                E less = sum();
                take(is("<"));
                E more = sum();
                take(is("then"));
                E then = sum();
                take(is("else"));
                house.ifs.add(new E[] {less, more, then});
            }
            house.last = sum();
        }

        E sum() {
            E left = part();
            while (is("+") || is("-")) {
                E e = new E();
                e.sign = take(true);
                e.left = left;
                e.right = part();
                left = e;
            }
            return left;
        }

        E part() {
            E left = unit();
            while (is("*") || is("/")) {
                E e = new E();
                e.sign = take(true);
                e.left = left;
                e.right = unit();
                left = e;
            }
            return left;
        }

        E unit() {
            if (is("(")) {
                if (open == 6) {
                    throw fault(2);
                }
                open++;
                take(true);
                E e = sum();
                take(is(")"));
                open--;
                return e;
            }
            E e = new E();
            if (isInt()) {
                e.number = Integer.parseInt(take(true));
            } else {
                e.var = take(VARS.contains(next.text));
            }
            return e;
        }
    }

    // ---- what goes on

    static final class Going {
        int night;
        int[] place = {0, 1, 2, 3, 4, 5};
        int[] set = {-1, -1, -1, -1, -1, -1};
        boolean[] leaflet = new boolean[6];
        int coins;
        int[] bin = {-2, -2, -2, -2, -2, -2};
        int[] sign = {-2, -2, -2, -2, -2, -2};
        int[] wrong = new int[6];
        int lastBrown = -2;
        int lastWrong = -2;
        int lastPaid = -2;

        Going copy() {
            Going g = new Going();
            g.night = night;
            g.place = place.clone();
            g.set = set.clone();
            g.leaflet = leaflet.clone();
            g.coins = coins;
            g.bin = bin.clone();
            g.sign = sign.clone();
            g.wrong = wrong.clone();
            g.lastBrown = lastBrown;
            g.lastWrong = lastWrong;
            g.lastPaid = lastPaid;
            return g;
        }
    }

    static final String[] HABITS = {"own", "most", "first", "as", "wise", "two", "law"};

    /** A street as it is, or as it would be. */
    final class Street {
        final int n = text.houses.size();
        final int[] at = new int[n];
        final int[] placeOf = new int[n];
        final String[] habit = new String[n];
        final int[] sure = new int[n];
        int hour = 0;
        final Map<String, Integer> wiseBins = new HashMap<>();

        Street(Going g) {
            for (int h = 0; h < n; h++) {
                House house = text.houses.get(h);
                placeOf[h] = g.place[h];
                at[g.place[h]] = h;
                habit[h] = g.leaflet[h] ? "own" : g.set[h] >= 0 ? HABITS[g.set[h]] : house.habit;
                sure[h] = g.leaflet[h] ? 10 : house.sure;
            }
        }

        int bin(int place, boolean brownSign, int[] row) {
            int h = at[place];
            int sign = brownSign ? 1 : 0;
            int from = Math.max(0, place - text.houses.get(h).sees);
            int browns = 0;
            int blues = 0;
            for (int i = from; i < place; i++) {
                browns += row[i] == 1 ? 1 : 0;
                blues += row[i] == 0 ? 1 : 0;
            }
            switch (habit[h]) {
                case "own":
                    return sign;
                case "most":
                    return browns > blues ? 1 : browns < blues ? 0 : sign;
                case "first":
                    return place == 0 || row[0] == 2 ? sign : row[0];
                case "as":
                    int other = placeOf[text.houses.get(h).as];
                    return other >= place || row[other] == 2 ? sign : row[other];
                case "two":
                    return 2;
                case "wise":
                    String key = place + " " + sign + Arrays.toString(Arrays.copyOfRange(row, from, place));
                    Integer known = wiseBins.get(key);
                    if (known == null) {
                        known = wise(place, brownSign, from, row);
                        wiseBins.put(key, known);
                    }
                    return known;
                default:
                    Map<String, Integer> vars = new HashMap<>();
                    vars.put("sign", sign);
                    vars.put("browns", browns);
                    vars.put("blues", blues);
                    vars.put("sees", text.houses.get(h).sees);
                    vars.put("sure", sure[h]);
                    vars.put("number", h);
                    vars.put("lead", place == 0 ? -1 : row[0] == 1 ? 1 : 0);
                    return law(text.houses.get(h), vars) > 0 ? 1 : 0;
            }
        }

        int law(House house, Map<String, Integer> vars) {
            try {
                for (E[] one : house.ifs) {
                    int less = one[0].value(vars);
                    int more = one[1].value(vars);
                    if (less < more) {
                        return one[2].value(vars);
                    }
                }
                return house.last.value(vars);
            } catch (DividedByZero e) {
                return 0;
            }
        }

        int wise(int place, boolean brownSign, int from, int[] row) {
            long brown = 0;
            long blue = 0;
            for (int world = 0; world < 2 << n; world++) {
                boolean isBrown = (world & 1) == 1;
                boolean right = (world >> 1 + at[place] & 1) == 1;
                if (brownSign != (isBrown == right)) {
                    continue;
                }
                int[] bins = bins(world, place);
                if (Arrays.equals(bins, from, place, row, from, place)) {
                    if (isBrown) {
                        brown += weight(world);
                    } else {
                        blue += weight(world);
                    }
                }
            }
            return brown > blue ? 1 : brown < blue ? 0 : brownSign ? 1 : 0;
        }

        /** Bit 0 of a world: it is brown; bit 1 + h: the sign of house h is right. */
        long weight(int world) {
            long weight = (world & 1) == 1 ? text.brown : 10 - text.brown;
            for (int h = 0; h < n; h++) {
                weight *= (world >> 1 + h & 1) == 1 ? sure[h] : 10 - sure[h];
            }
            return weight;
        }

        /** The bins of the first places, as the house at the next place meets them. */
        int[] bins(int world, int places) {
            int[] row = new int[6];
            int colour = world & 1;
            for (int place = 0; place <= places; place++) {
                if (place == hour) {
                    Arrays.fill(row, 0, place, colour);
                }
                if (place < places) {
                    boolean right = (world >> 1 + at[place] & 1) == 1;
                    row[place] = bin(place, right == (colour == 1), row);
                }
            }
            return row;
        }

        long all() {
            long all = 10;
            for (int h = 0; h < n; h++) {
                all *= 10;
            }
            return all;
        }

        long chance(int house) {
            long sum = 0;
            for (int world = 0; world < 2 << n; world++) {
                if (weight(world) > 0 && bins(world, n)[placeOf[house]] == 1 - (world & 1)) {
                    sum += weight(world);
                }
            }
            return sum;
        }

        long mean() {
            long sum = 0;
            for (int world = 0; world < 2 << n; world++) {
                if (weight(world) > 0) {
                    sum += weight(world) * wrongs(world);
                }
            }
            return sum;
        }

        int wrongs(int world) {
            int[] row = bins(world, n);
            int wrongs = 0;
            for (int place = 0; place < n; place++) {
                wrongs += row[place] == 1 - (world & 1) ? 1 : 0;
            }
            return wrongs;
        }

        long pays() {
            long sum = 0;
            for (int world = 0; world < 2 << n; world++) {
                int[] row = bins(world, n);
                long both = 0;
                for (int place = 0; place < n; place++) {
                    both += row[place] == 2 ? 1 : 0;
                }
                sum += weight(world) * (wrongs(world) * text.fine + both * text.both);
            }
            return sum;
        }
    }

    String tape = "";
    int faultPlace = -1;
    Text text = new Text();
    Going now = new Going();
    final List<Going> past = new ArrayList<>();
    final Going[] slots = new Going[3];
    final List<int[]> told = new ArrayList<>();

    static int part(long above, long under, boolean below) {
        long divisor = BigInteger.valueOf(above).gcd(BigInteger.valueOf(under)).longValue();
        return (int) ((below ? under : above) / divisor);
    }

    int n() {
        return text.houses.size();
    }

    boolean isHouse(int h) {
        return h >= 0 && h < n();
    }

    int leaflets(Going g) {
        int bits = 0;
        for (int h = 0; h < n(); h++) {
            bits |= g.leaflet[h] ? 1 << h : 0;
        }
        return bits;
    }

    static int[] row(int number) {
        int[] row = new int[6];
        for (int place = 0; place < 6; place++) {
            row[place] = number % 3;
            number /= 3;
        }
        return row;
    }

    int feed(int... words) {
        if (tape.length() + 20 > 2000) {
            return -1;
        }
        StringBuilder more = new StringBuilder(tape);
        for (int word : words) {
            more.append((char) (word >>> 24)).append((char) (word >>> 16 & 255));
            more.append((char) (word >>> 8 & 255)).append((char) (word & 255));
        }
        tape = more.toString();
        return tape.length();
    }

    int back(int n) {
        if (n < 0 || n > tape.length()) {
            return -1;
        }
        tape = tape.substring(0, tape.length() - n);
        return tape.length();
    }

    int read() {
        String bytes = tape;
        tape = "";
        faultPlace = -1;
        try {
            text = new Parser(bytes).parse();
        } catch (Fault fault) {
            faultPlace = fault.place;
            return fault.number;
        }
        now = new Going();
        past.clear();
        told.clear();
        Arrays.fill(slots, null);
        return 0;
    }

    int place() {
        return faultPlace;
    }

    int house(int h, int what) {
        if (!isHouse(h) || what < 0 || what > 6) {
            return -1;
        }
        Street street = new Street(now);
        int[] answers = {now.place[h], street.sure[h], Arrays.asList(HABITS).indexOf(street.habit[h]),
            now.leaflet[h] ? 1 : 0, now.bin[h], now.sign[h], now.wrong[h]};
        return answers[what];
    }

    int night(int what) {
        return what == 0 ? now.lastBrown : what == 1 ? now.lastWrong : what == 2 ? now.lastPaid : -1;
    }

    static int lot(int n, int seed, int which) {
        int h = seed;
        for (int it : new int[] {53, which}) {
            h = (h ^ it) * 1103515245 + 12345;
            h = h ^ (h >>> 15);
        }
        return (h >>> 1) % n;
    }

    void oneNight(Going g, int seed) {
        Street street = new Street(g);
        g.lastBrown = lot(10, seed, 16 * g.night) < text.brown ? 1 : 0;
        g.lastWrong = 0;
        g.lastPaid = 0;
        int[] row = new int[6];
        for (int place = 0; place < n(); place++) {
            int h = street.at[place];
            boolean right = lot(10, seed, 16 * g.night + 1 + h) < street.sure[h];
            g.sign[h] = right ? g.lastBrown : 1 - g.lastBrown;
            row[place] = street.bin(place, g.sign[h] == 1, row);
            g.bin[h] = row[place];
            if (row[place] == 2) {
                g.lastPaid += text.both;
            } else if (row[place] != g.lastBrown) {
                g.lastPaid += text.fine;
                g.lastWrong++;
                g.wrong[h]++;
            }
        }
        g.coins += g.lastPaid;
        g.night++;
    }

    void remember() {
        past.add(now.copy());
        if (past.size() > 40) {
            past.remove(0);
        }
    }

    int nights(int n) {
        if (n < 0 || n > 50) {
            return -1;
        }
        if (n > 0) {
            remember();
        }
        for (int i = 0; i < n; i++) {
            oneNight(now, text.seed);
        }
        return now.night;
    }

    boolean leaflet(int h, boolean given) {
        if (!isHouse(h) || now.leaflet[h] == given) {
            return false;
        }
        remember();
        now.leaflet[h] = given;
        now.coins += given ? text.leaflet : 0;
        return true;
    }

    boolean swap(int h, int o) {
        if (!isHouse(h) || !isHouse(o) || h == o) {
            return false;
        }
        remember();
        now = swapped(now, h, o);
        return true;
    }

    static Going swapped(Going g, int h, int o) {
        Going other = g.copy();
        other.place[h] = g.place[o];
        other.place[o] = g.place[h];
        return other;
    }

    boolean habit(int h, int habit) {
        if (!isHouse(h) || !Arrays.asList(-1, 0, 1, 2, 4, 5).contains(habit) || now.set[h] == habit) {
            return false;
        }
        remember();
        now.set[h] = habit;
        return true;
    }

    boolean undo() {
        if (past.isEmpty()) {
            return false;
        }
        now = past.remove(past.size() - 1);
        return true;
    }

    int puts(int h, boolean brown, int row) {
        if (!isHouse(h) || row < 0 || row > 728) {
            return -1;
        }
        return new Street(now).bin(now.place[h], brown, row(row));
    }

    int chance(int h, boolean below) {
        Street street = new Street(now);
        return isHouse(h) ? part(street.chance(h), street.all(), below) : -1;
    }

    int street(int n, boolean below) {
        if (n < 0 || n > 6) {
            return -1;
        }
        Street street = new Street(now);
        long sum = 0;
        for (int world = 0; world < 2 << n(); world++) {
            sum += street.wrongs(world) == n ? street.weight(world) : 0;
        }
        return part(sum, street.all(), below);
    }

    int mean(boolean below) {
        Street street = new Street(now);
        return part(street.mean(), street.all(), below);
    }

    int pays(boolean below) {
        Street street = new Street(now);
        return part(street.pays(), street.all(), below);
    }

    int tells(int row, boolean below) {
        if (row < 0 || row > 728) {
            return -1;
        }
        Street street = new Street(now);
        long brown = 0;
        long all = 0;
        for (int world = 0; world < 2 << n(); world++) {
            if (Arrays.equals(street.bins(world, n()), 0, n(), row(row), 0, n())) {
                all += street.weight(world);
                brown += (world & 1) == 1 ? street.weight(world) : 0;
            }
        }
        return all == 0 ? -2 : part(brown, all, below);
    }

    int herd(int row) {
        if (row < 0 || row > 728) {
            return -1;
        }
        Street street = new Street(now);
        for (int first = 0; first < n(); first++) {
            boolean all = true;
            for (int place = first; place < n(); place++) {
                all &= street.bin(place, true, row(row)) == street.bin(place, false, row(row));
            }
            if (all) {
                return first;
            }
        }
        return -2;
    }

    long meanWith(int more) {
        Going g = now.copy();
        for (int h = 0; h < n(); h++) {
            g.leaflet[h] |= (more >> h & 1) == 1;
        }
        return new Street(g).mean();
    }

    int whom(int n) {
        if (n < 0 || n > 6) {
            return -1;
        }
        int best = -2;
        long least = Long.MAX_VALUE;
        for (int set = 0; set < 1 << n(); set++) {
            if (Integer.bitCount(set) == n && (set & leaflets(now)) == 0) {
                long mean = meanWith(set);
                if (mean < least) {
                    least = mean;
                    best = set;
                }
            }
        }
        return best;
    }

    int worth(int h, boolean below) {
        if (!isHouse(h)) {
            return -1;
        }
        return part(meanWith(0) - meanWith(1 << h), new Street(now).all(), below);
    }

    int fewest(int tenths) {
        if (tenths < 0 || tenths > 60) {
            return -1;
        }
        int least = 7;
        for (int set = 0; set < 1 << n(); set++) {
            if ((set & leaflets(now)) == 0 && meanWith(set) * 10 <= tenths * new Street(now).all()) {
                least = Math.min(least, Integer.bitCount(set));
            }
        }
        return least;
    }

    int bestSwap() {
        long least = meanWith(0);
        int best = -2;
        for (int h = 0; h < n(); h++) {
            for (int o = h + 1; o < n(); o++) {
                long mean = new Street(swapped(now, h, o)).mean();
                if (mean < least) {
                    least = mean;
                    best = 10 * h + o;
                }
            }
        }
        return best;
    }

    int hour(int place, boolean below) {
        if (place < 0 || place > n()) {
            return -1;
        }
        Street street = new Street(now);
        street.hour = place;
        return part(street.mean(), street.all(), below);
    }

    int bestHour() {
        int best = 0;
        long least = Long.MAX_VALUE;
        for (int place = 0; place <= n(); place++) {
            Street street = new Street(now);
            street.hour = place;
            if (street.mean() < least) {
                least = street.mean();
                best = place;
            }
        }
        return best;
    }

    int two() {
        Street street = new Street(now);
        int bits = 0;
        for (int h = 0; h < n(); h++) {
            bits |= street.chance(h) * text.fine > text.both * street.all() ? 1 << h : 0;
        }
        return bits;
    }

    Street withOwn(int set) {
        Street street = new Street(now);
        for (int h = 0; h < n(); h++) {
            if ((set >> h & 1) == 1) {
                street.habit[h] = "own";
            }
        }
        return street;
    }

    int better() {
        Street street = new Street(now);
        int bits = 0;
        for (int h = 0; h < n(); h++) {
            bits |= withOwn(1 << h).chance(h) < street.chance(h) ? 1 << h : 0;
        }
        return bits;
    }

    int rests(int i) {
        if (i < -1) {
            return -1;
        }
        List<Integer> sets = new ArrayList<>();
        for (int set = 0; set < 1 << n(); set++) {
            if ((set & leaflets(now)) == 0) {
                boolean all = true;
                for (int h = 0; h < n() && all; h++) {
                    all = now.leaflet[h] || withOwn(set ^ 1 << h).chance(h) >= withOwn(set).chance(h);
                }
                if (all) {
                    sets.add(set);
                }
            }
        }
        return i == -1 ? sets.size() : i < sets.size() ? sets.get(i) : -1;
    }

    int fence(int what) {
        if (what < 0 || what > 1) {
            return -1;
        }
        if (now.night == 0) {
            return -2;
        }
        int[] bins = new int[n()];
        for (int h = 0; h < n(); h++) {
            bins[now.place[h]] = now.bin[h];
        }
        int rounds = 0;
        while (rounds < 20) {
            int[] next = bins.clone();
            for (int place = 1; place + 1 < n(); place++) {
                if (bins[place - 1] == bins[place + 1] && bins[place - 1] != 2) {
                    next[place] = bins[place - 1];
                }
            }
            if (Arrays.equals(next, bins)) {
                break;
            }
            bins = next;
            rounds++;
        }
        int row = 0;
        for (int place = n() - 1; place >= 0; place--) {
            row = row * 3 + bins[place];
        }
        return what == 0 ? rounds : row;
    }

    int year(int n, int s) {
        if (n < 1 || n > 50 || s < 1 || s > 10) {
            return -1;
        }
        int wrong = 0;
        for (int i = 0; i < s; i++) {
            Going g = now.copy();
            for (int j = 0; j < n; j++) {
                oneNight(g, text.seed + i);
                wrong += g.lastWrong;
            }
        }
        return wrong;
    }

    int tell(int h, boolean sign, int browns, int blues, boolean lead, boolean brown) {
        if (told.size() == 20 || !isHouse(h) || browns < 0 || browns > 6 || blues < 0 || blues > 6) {
            return -1;
        }
        told.add(new int[] {h, sign ? 1 : 0, browns, blues, lead ? 1 : 0, brown ? 1 : 0});
        return told.size() - 1;
    }

    int forget() {
        int count = told.size();
        told.clear();
        return count;
    }

    int fits(int h, int k) {
        if (!isHouse(h) || k < 0 || k > told.size()) {
            return -1;
        }
        int bits = 31;
        for (int[] one : told.subList(0, k)) {
            if (one[0] == h) {
                int most = one[2] > one[3] ? 1 : one[2] < one[3] ? 0 : one[1];
                int fewest = one[2] < one[3] ? 1 : one[2] > one[3] ? 0 : one[1];
                int[] bins = {one[1], most, one[4], 1 - one[1], fewest};
                for (int habit = 0; habit < 5; habit++) {
                    if (bins[habit] != one[5]) {
                        bits &= ~(1 << habit);
                    }
                }
            }
        }
        return bits;
    }

    boolean hold(int slot) {
        if (slot < 0 || slot > 2) {
            return false;
        }
        slots[slot] = now.copy();
        return true;
    }

    boolean restore(int slot) {
        if (slot < 0 || slot > 2 || slots[slot] == null) {
            return false;
        }
        now = slots[slot].copy();
        past.clear();
        return true;
    }

    int count(int what) {
        int held = 0;
        for (Going slot : slots) {
            held += slot == null ? 0 : 1;
        }
        int[] answers = {n(), now.night, now.coins, leaflets(now), Arrays.stream(now.wrong).sum(), text.brown,
            text.fine, text.both, tape.length(), past.size(), told.size(), held, text.leaflet};
        return what >= 0 && what < answers.length ? answers[what] : -1;
    }
}
