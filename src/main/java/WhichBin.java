import java.util.Arrays;

/** A street on the evening on which bins are put out, as ../shared/DOC.md tells it. */
public final class WhichBin {
    public static final int NONE = -1;

    private static final int CANNOT_TELL = -2;
    private static final int MOST_HOUSES = 6;
    private static final int MOST_NIGHTS = 50;
    private static final int MOST_SEEDS = 10;
    private static final int MOST_TENTHS = 60;
    private static final int MOST_ROUNDS = 20;
    private static final int SLOTS = 3;
    private static final int SETS = 64;
    private static final int MOST_DIVISIONS = 1000;

    private static final int BLUE_BIN = 0;
    private static final int BROWN_BIN = 1;
    private static final int BOTH_BINS = 2;

    private static final int OWN = 0;
    private static final int MOST = 1;
    private static final int FIRST = 2;
    private static final int AS = 3;
    private static final int WISE = 4;
    private static final int TWO = 5;
    private static final int LAW = 6;

    private static final int[] THREES = {1, 3, 9, 27, 81, 243, 729};
    private static final int[] TENS = {1, 10, 100, 1000, 10000, 100000, 1000000, 10000000};

    private final Tape tape = new Tape();
    private final Reader reader = new Reader();
    private Plan plan = new Plan();
    private Plan sparePlan = new Plan();
    private final Standing now = new Standing();
    private final Past past = new Past();
    private final Standing[] slots = new Standing[SLOTS];
    private final boolean[] held = new boolean[SLOTS];
    private final Diary diary = new Diary();
    private final Evening evening = new Evening();
    private final Fence fence = new Fence();
    private final int[] means = new int[SETS];
    private final int[] chances = new int[SETS * MOST_HOUSES];
    private final int[] restingSets = new int[SETS];
    private int restingCount = NONE;
    private boolean eveningIsNow;

    public WhichBin() {
        for (int slot = 0; slot < SLOTS; slot++) {
            slots[slot] = new Standing();
        }
        startAnew();
    }

    // ---- texts

    public int feed(int a, int b, int c, int d, int e) {
        if (!tape.hasRoomFor(20)) {
            return NONE;
        }
        tape.add(a);
        tape.add(b);
        tape.add(c);
        tape.add(d);
        tape.add(e);
        return tape.length;
    }

    public int back(int n) {
        if (n < 0 || n > tape.length) {
            return NONE;
        }
        tape.length -= n;
        return tape.length;
    }

    public int read() {
        reader.parse(tape, sparePlan);
        tape.length = 0;
        if (reader.fault == 0) {
            sparePlan.reckonLaws();
            Plan old = plan;
            plan = sparePlan;
            sparePlan = old;
            startAnew();
        }
        return reader.fault;
    }

    public int place() {
        return reader.faultPlace;
    }

    private void startAnew() {
        now.clear();
        past.clear();
        diary.clear();
        for (int slot = 0; slot < SLOTS; slot++) {
            held[slot] = false;
        }
        forgetAnswers();
    }

    /** What was reckoned holds only until something is changed. */
    private void forgetAnswers() {
        eveningIsNow = false;
        restingCount = NONE;
        Arrays.fill(means, NONE);
    }

    // ---- what is

    public int house(int house, int what) {
        if (!isHouse(house) || what < 0 || what > 6) {
            return NONE;
        }
        boolean sureOne = hasBit(now.leaflets, house);
        switch (what) {
            case 0:
                return now.of(Standing.PLACE, house);
            case 1:
                return plan.sureOf(house, sureOne);
            case 2:
                return plan.habitOf(house, sureOne, now.of(Standing.HABIT, house));
            case 3:
                return sureOne ? 1 : 0;
            case 4:
                return now.night == 0 ? CANNOT_TELL : now.of(Standing.BIN, house);
            case 5:
                return now.night == 0 ? CANNOT_TELL : now.of(Standing.SIGN, house);
            default:
                return now.of(Standing.WRONGS, house);
        }
    }

    public int night(int what) {
        if (what < 0 || what > 2) {
            return NONE;
        }
        if (now.night == 0) {
            return CANNOT_TELL;
        }
        switch (what) {
            case 0:
                return now.lastBrown ? 1 : 0;
            case 1:
                return now.lastWrong;
            default:
                return now.lastPaid;
        }
    }

    public int count(int what) {
        switch (what) {
            case 0:
                return plan.houses;
            case 1:
                return now.night;
            case 2:
                return now.coins;
            case 3:
                return now.leaflets;
            case 4:
                return now.wrongs;
            case 5:
                return plan.brown;
            case 6:
                return plan.fine;
            case 7:
                return plan.both;
            case 8:
                return tape.length;
            case 9:
                return past.count;
            case 10:
                return diary.count;
            case 11:
                return heldSlots();
            case 12:
                return plan.leaflet;
            default:
                return NONE;
        }
    }

    private int heldSlots() {
        int count = 0;
        for (int slot = 0; slot < SLOTS; slot++) {
            if (held[slot]) {
                count++;
            }
        }
        return count;
    }

    private boolean isHouse(int house) {
        return house >= 0 && house < plan.houses;
    }

    private static boolean isRow(int row) {
        return row >= 0 && row < THREES[MOST_HOUSES];
    }

    private static boolean hasBit(int bits, int house) {
        return (bits >> house & 1) != 0;
    }

    private int allHouses() {
        return (1 << plan.houses) - 1;
    }

    // ---- things done

    public int nights(int n) {
        if (n < 0 || n > MOST_NIGHTS) {
            return NONE;
        }
        if (n > 0) {
            past.remember(now);
            Evening tonight = tonight();
            for (int i = 0; i < n; i++) {
                tonight.goBy(plan.seed, now.night);
                now.record(tonight);
            }
        }
        return now.night;
    }

    public boolean leaflet(int house, boolean given) {
        if (!isHouse(house) || hasBit(now.leaflets, house) == given) {
            return false;
        }
        past.remember(now);
        now.leaflets ^= 1 << house;
        if (given) {
            now.coins += plan.leaflet;
        }
        forgetAnswers();
        return true;
    }

    public boolean swap(int house, int other) {
        if (!isHouse(house) || !isHouse(other) || house == other) {
            return false;
        }
        past.remember(now);
        int left = now.of(Standing.PLACE, house);
        now.set(Standing.PLACE, house, now.of(Standing.PLACE, other));
        now.set(Standing.PLACE, other, left);
        forgetAnswers();
        return true;
    }

    public boolean habit(int house, int habit) {
        if (!isHouse(house) || !canBeSet(habit) || now.of(Standing.HABIT, house) == habit) {
            return false;
        }
        past.remember(now);
        now.set(Standing.HABIT, house, habit);
        forgetAnswers();
        return true;
    }

    private static boolean canBeSet(int habit) {
        return habit >= NONE && habit < LAW && habit != AS;
    }

    public boolean undo() {
        if (!past.recall(now)) {
            return false;
        }
        forgetAnswers();
        return true;
    }

    public boolean hold(int slot) {
        if (!isSlot(slot)) {
            return false;
        }
        slots[slot].copy(now);
        held[slot] = true;
        return true;
    }

    public boolean restore(int slot) {
        if (!isSlot(slot) || !held[slot]) {
            return false;
        }
        now.copy(slots[slot]);
        past.clear();
        forgetAnswers();
        return true;
    }

    private static boolean isSlot(int slot) {
        return slot >= 0 && slot < SLOTS;
    }

    // ---- what would be

    public int puts(int house, boolean brown, int row) {
        if (!isHouse(house) || !isRow(row)) {
            return NONE;
        }
        return tonight().binAt(now.of(Standing.PLACE, house), brown, row);
    }

    public int chance(int house, boolean below) {
        return isHouse(house) ? partOfAll(tonight().wrong[house], below) : NONE;
    }

    public int street(int n, boolean below) {
        if (n < 0 || n > MOST_HOUSES) {
            return NONE;
        }
        return partOfAll(tonight().weightOfWrongs(n), below);
    }

    public int mean(boolean below) {
        return partOfAll(meanWith(now.leaflets), below);
    }

    public int pays(boolean below) {
        Evening tonight = tonight();
        long price = (long) tonight.allWrong() * plan.fine + (long) tonight.bothOut * plan.both;
        return partOfAll(price, below);
    }

    public int tells(int row, boolean below) {
        if (!isRow(row)) {
            return NONE;
        }
        Evening tonight = tonight();
        int brown = tonight.weightOfRow(row, true);
        int all = brown + tonight.weightOfRow(row, false);
        return all == 0 ? CANNOT_TELL : fraction(brown, all, below);
    }

    public int herd(int row) {
        if (!isRow(row)) {
            return NONE;
        }
        Evening tonight = tonight();
        int first = plan.houses;
        while (first > 0 && tonight.binAt(first - 1, true, row) == tonight.binAt(first - 1, false, row)) {
            first--;
        }
        return first == plan.houses ? CANNOT_TELL : first;
    }

    public int whom(int n) {
        if (n < 0 || n > MOST_HOUSES) {
            return NONE;
        }
        return Integer.bitCount(allHouses() & ~now.leaflets) < n ? CANNOT_TELL : bestLeaflets(n);
    }

    public int worth(int house, boolean below) {
        if (!isHouse(house)) {
            return NONE;
        }
        return partOfAll(meanWith(now.leaflets) - meanWith(now.leaflets | 1 << house), below);
    }

    public int fewest(int tenths) {
        if (tenths < 0 || tenths > MOST_TENTHS) {
            return NONE;
        }
        int without = Integer.bitCount(allHouses() & ~now.leaflets);
        for (int n = 0; n < without; n++) {
            if (10L * meanWith(now.leaflets | bestLeaflets(n)) <= (long) tenths * allWeight()) {
                return n;
            }
        }
        return without;
    }

    /** The n houses without a leaflet by which the mean is least; there must be as many. */
    private int bestLeaflets(int n) {
        int without = allHouses() & ~now.leaflets;
        int best = NONE;
        for (int set = 0; set <= without; set++) {
            if ((set & ~without) == 0 && Integer.bitCount(set) == n
                    && (best == NONE || meanWith(now.leaflets | set) < meanWith(now.leaflets | best))) {
                best = set;
            }
        }
        return best;
    }

    /** Weight of the mean if just these houses have a leaflet. */
    private int meanWith(int leaflets) {
        if (means[leaflets] == NONE) {
            evening.arrange(plan, now, leaflets, 0);
            evening.unfold(0);
            eveningIsNow = leaflets == now.leaflets;
            means[leaflets] = evening.allWrong();
        }
        return means[leaflets];
    }

    public int bestSwap() {
        int best = CANNOT_TELL;
        int least = meanWith(now.leaflets);
        for (int house = 0; house < plan.houses; house++) {
            for (int other = house + 1; other < plan.houses; other++) {
                int mean = meanIfChanged(house, other);
                if (mean < least) {
                    least = mean;
                    best = 10 * house + other;
                }
            }
        }
        return best;
    }

    private int meanIfChanged(int house, int other) {
        eveningIsNow = false;
        evening.arrange(plan, now, now.leaflets, 0);
        evening.changePlaces(house, other);
        evening.unfold(0);
        return evening.allWrong();
    }

    public int hour(int place, boolean below) {
        if (place < 0 || place > plan.houses) {
            return NONE;
        }
        return partOfAll(meanIfPutRight(place), below);
    }

    public int bestHour() {
        int best = 0;
        int least = meanIfPutRight(0);
        for (int place = 1; place <= plan.houses; place++) {
            int mean = meanIfPutRight(place);
            if (mean < least) {
                least = mean;
                best = place;
            }
        }
        return best;
    }

    private int meanIfPutRight(int place) {
        eveningIsNow = false;
        evening.arrange(plan, now, now.leaflets, 0);
        evening.unfold(place);
        return evening.allWrong();
    }

    public int two() {
        Evening tonight = tonight();
        int bits = 0;
        for (int house = 0; house < plan.houses; house++) {
            if ((long) tonight.wrong[house] * plan.fine > (long) plan.both * allWeight()) {
                bits |= 1 << house;
            }
        }
        return bits;
    }

    /** By its own sign a house is wrong as often as the sign is, whatever the others do. */
    public int better() {
        Evening tonight = tonight();
        int bits = 0;
        for (int house = 0; house < plan.houses; house++) {
            int wrongByOwn = (10 - tonight.sure[house]) * TENS[plan.houses];
            if (wrongByOwn < tonight.wrong[house]) {
                bits |= 1 << house;
            }
        }
        return bits;
    }

    public int rests(int i) {
        if (i < NONE) {
            return NONE;
        }
        if (restingCount == NONE) {
            findRests();
        }
        if (i == NONE) {
            return restingCount;
        }
        return i < restingCount ? restingSets[i] : NONE;
    }

    private void findRests() {
        eveningIsNow = false;
        for (int set = 0; set <= allHouses(); set++) {
            if ((set & now.leaflets) == 0) {
                evening.arrange(plan, now, now.leaflets, set);
                evening.unfold(0);
                System.arraycopy(evening.wrong, 0, chances, set * MOST_HOUSES, MOST_HOUSES);
            }
        }
        restingCount = 0;
        for (int set = 0; set <= allHouses(); set++) {
            if ((set & now.leaflets) == 0 && isResting(set)) {
                restingSets[restingCount] = set;
                restingCount++;
            }
        }
    }

    private boolean isResting(int set) {
        for (int house = 0; house < plan.houses; house++) {
            if (!hasBit(now.leaflets, house)) {
                int otherSet = set ^ 1 << house;
                if (chances[otherSet * MOST_HOUSES + house] < chances[set * MOST_HOUSES + house]) {
                    return false;
                }
            }
        }
        return true;
    }

    public int fence(int what) {
        if (what < 0 || what > 1) {
            return NONE;
        }
        if (now.night == 0) {
            return CANNOT_TELL;
        }
        fence.settle(now, plan.houses);
        return what == 0 ? fence.rounds : fence.row;
    }

    public int year(int n, int s) {
        if (n < 1 || n > MOST_NIGHTS || s < 1 || s > MOST_SEEDS) {
            return NONE;
        }
        Evening tonight = tonight();
        int wrongs = 0;
        for (int seed = plan.seed; seed < plan.seed + s; seed++) {
            for (int night = now.night; night < now.night + n; night++) {
                tonight.goBy(seed, night);
                wrongs += tonight.nightWrongs;
            }
        }
        return wrongs;
    }

    /** The evening as things are now, unfolded over all worlds. */
    private Evening tonight() {
        if (!eveningIsNow) {
            evening.arrange(plan, now, now.leaflets, 0);
            evening.unfold(0);
            eveningIsNow = true;
        }
        return evening;
    }

    private int allWeight() {
        return TENS[plan.houses + 1];
    }

    private int partOfAll(long weight, boolean below) {
        return fraction(weight, allWeight(), below);
    }

    /** One part of a fraction that cannot be lessened; what is under the line must be above 0. */
    private static int fraction(long above, long under, boolean below) {
        long divisor = under;
        long rest = Math.abs(above);
        for (int i = 0; i < MOST_DIVISIONS && rest != 0; i++) {
            long next = divisor % rest;
            divisor = rest;
            rest = next;
        }
        return (int) ((below ? under : above) / divisor);
    }

    // ---- what was seen

    public int tell(int house, boolean sign, int browns, int blues, boolean lead, boolean brown) {
        if (!isHouse(house) || !isSeen(browns) || !isSeen(blues)) {
            return NONE;
        }
        return diary.add(house, browns, blues, sign, lead, brown);
    }

    private static boolean isSeen(int bins) {
        return bins >= 0 && bins <= MOST_HOUSES;
    }

    public int forget() {
        int count = diary.count;
        diary.clear();
        return count;
    }

    public int fits(int house, int k) {
        if (!isHouse(house) || k < 0 || k > diary.count) {
            return NONE;
        }
        return diary.habitsThatFit(house, k);
    }

    /** The bytes that were fed and not read yet. */
    private static final class Tape {
        private static final int MOST_BYTES = 2000;
        private final byte[] bytes = new byte[MOST_BYTES];
        int length;

        boolean hasRoomFor(int more) {
            return length + more <= MOST_BYTES;
        }

        void add(int fourBytes) {
            for (int shift = 24; shift >= 0; shift -= 8) {
                if (length < MOST_BYTES) {
                    bytes[length] = (byte) (fourBytes >>> shift);
                    length++;
                }
            }
        }

        /** NONE behind the end, so that a token's end needs no test of its own. */
        int at(int index) {
            return index >= 0 && index < length ? bytes[index] & 255 : NONE;
        }
    }

    /** A text cut into tokens. A sign's kind is its character, a word's is its number in WORDS. */
    private static final class Tokens {
        static final int HOUSE = 0;
        static final int BROWN = 1;
        static final int FINE = 2;
        static final int BOTH = 3;
        static final int LEAFLET = 4;
        static final int SEED = 5;
        static final int OWN = 6;
        static final int AS = 9;
        static final int TWO = 11;
        static final int IF = 12;
        static final int THEN = 13;
        static final int ELSE = 14;
        static final int SIGN = 15;
        static final int LEAD = 21;
        static final int NAME = 100;
        static final int INT = 101;
        static final int NO_TOKEN = 102;
        static final int END = 103;
        static final int MOST = 400;

        private static final String WORDS = "house brown fine both leaflet seed own most first as wise two if then else sign browns blues sees sure number lead ";
        private static final String SIGNS = ";=+-*/<()";
        private static final int LONGEST_NAME = 8;
        private static final int LONGEST_INT = 4;

        private final long[] words = new long[LEAD + 1];
        final int[] kinds = new int[MOST + 2];
        final int[] starts = new int[MOST + 2];
        /** An INT's number, or a NAME's code: different names have different codes. */
        final long[] values = new long[MOST + 2];
        int size;

        Tokens() {
            int word = 0;
            long code = 0;
            for (int i = 0; i < WORDS.length(); i++) {
                if (WORDS.charAt(i) != ' ') {
                    code = withLetter(code, WORDS.charAt(i));
                } else if (word < words.length) {
                    words[word] = code;
                    word++;
                    code = 0;
                }
            }
        }

        /** One token more than a text may have is enough: no text goes on behind that one. */
        void cut(Tape tape) {
            size = 0;
            int at = 0;
            for (int i = 0; i < Tape.MOST_BYTES && at < tape.length && size <= MOST; i++) {
                if (isBlank(tape.at(at))) {
                    at++;
                } else {
                    at = cutOne(tape, at);
                }
            }
            add(END, tape.length, 0);
        }

        private int cutOne(Tape tape, int from) {
            int first = tape.at(from);
            if (isLetter(first)) {
                return cutWord(tape, from);
            }
            if (isDigit(first)) {
                return cutInt(tape, from);
            }
            if (SIGNS.indexOf((char) first) >= 0) {
                add(first, from, 0);
                return from + 1;
            }
            return cutNoToken(tape, from);
        }

        private int cutWord(Tape tape, int from) {
            int end = from;
            long code = 0;
            while (end < tape.length && isLetter(tape.at(end))) {
                code = withLetter(code, tape.at(end));
                end++;
            }
            if (end - from > LONGEST_NAME) {
                return cutNoToken(tape, from);
            }
            add(kindOf(code), from, code);
            return end;
        }

        private int cutInt(Tape tape, int from) {
            int end = from;
            long number = 0;
            while (end < tape.length && isDigit(tape.at(end))) {
                number = 10 * number + tape.at(end) - '0';
                end++;
            }
            if (end - from > LONGEST_INT) {
                return cutNoToken(tape, from);
            }
            add(INT, from, number);
            return end;
        }

        /** No text goes on with it, so what stands behind it need not be cut. */
        private int cutNoToken(Tape tape, int from) {
            add(NO_TOKEN, from, 0);
            return tape.length;
        }

        private void add(int kind, int start, long value) {
            if (size < kinds.length) {
                kinds[size] = kind;
                starts[size] = start;
                values[size] = value;
                size++;
            }
        }

        private int kindOf(long code) {
            for (int word = 0; word < words.length; word++) {
                if (words[word] == code) {
                    return word;
                }
            }
            return NAME;
        }

        private static long withLetter(long code, int letter) {
            return code * 27 + letter - 'a' + 1;
        }

        private static boolean isBlank(int sign) {
            return sign == 9 || sign == 10 || sign == 13 || sign == 32;
        }

        private static boolean isLetter(int sign) {
            return sign >= 'a' && sign <= 'z';
        }

        private static boolean isDigit(int sign) {
            return sign >= '0' && sign <= '9';
        }
    }

    /** Reads a text into a plan and finds its first fault. */
    private static final class Reader {
        private static final int SYNTAX = 1;
        private static final int ROOM = 2;
        private static final int TWICE = 3;
        private static final int UNKNOWN_NAME = 4;
        private static final int WRONG_INT = 5;
        private static final int MOST_IFS = 4;
        private static final int MOST_OPEN = 6;

        private final Tokens tokens = new Tokens();
        private final int[] waiting = new int[Tokens.MOST];
        private Plan plan;
        private int at;
        private int kind;
        private int waitingCount;
        private int laterFault;
        private int laterPlace;
        int fault;
        int faultPlace = NONE;

        void parse(Tape tape, Plan into) {
            tokens.cut(tape);
            plan = into;
            plan.clear();
            at = 0;
            kind = tokens.kinds[0];
            fault = 0;
            faultPlace = NONE;
            laterFault = 0;
            for (int i = 0; i <= Tokens.MOST && fault == 0 && kind != Tokens.END; i++) {
                if (kind != Tokens.HOUSE) {
                    parseSetting();
                } else if (plan.houses < MOST_HOUSES) {
                    parseHouse(plan.houses);
                    parseHabit(plan.houses);
                    plan.houses++;
                } else {
                    fail(ROOM);
                }
                take(';');
            }
            if (fault == 0 && laterFault != 0) {
                fault = laterFault;
                faultPlace = laterPlace;
            }
        }

        private void fail(int number) {
            if (fault == 0) {
                fault = number;
                faultPlace = tokens.starts[at];
            }
        }

        /** A fault that counts only if the whole text has none of syntax or room. */
        private void failLater(int number) {
            if (laterFault == 0) {
                laterFault = number;
                laterPlace = tokens.starts[at];
            }
        }

        private void take(int due) {
            if (kind != due) {
                fail(SYNTAX);
            } else if (at >= Tokens.MOST) {
                fail(ROOM);
            } else if (fault == 0 && at + 1 < tokens.size) {
                at++;
                kind = tokens.kinds[at];
            }
        }

        private int takeInt(int most) {
            int number = (int) tokens.values[at];
            if (kind == Tokens.INT && number > most) {
                failLater(WRONG_INT);
            }
            take(Tokens.INT);
            return number;
        }

        private void parseSetting() {
            int word = kind;
            if (word < Tokens.BROWN || word > Tokens.SEED) {
                fail(SYNTAX);
                return;
            }
            take(word);
            switch (word) {
                case Tokens.BROWN:
                    plan.brown = takeInt(10);
                    break;
                case Tokens.FINE:
                    plan.fine = takeInt(30);
                    break;
                case Tokens.BOTH:
                    plan.both = takeInt(30);
                    break;
                case Tokens.LEAFLET:
                    plan.leaflet = takeInt(999);
                    break;
                default:
                    plan.seed = takeInt(9999);
                    break;
            }
        }

        private void parseHouse(int house) {
            take(Tokens.HOUSE);
            plan.names[house] = tokens.values[at];
            if (kind == Tokens.NAME && plan.find(tokens.values[at]) != NONE) {
                failLater(TWICE);
            }
            take(Tokens.NAME);
            plan.sure[house] = takeInt(10);
            plan.sees[house] = takeInt(6);
        }

        private void parseHabit(int house) {
            int word = kind;
            if (word == '=') {
                plan.habits[house] = LAW;
                parseLaw(house);
            } else if (word >= Tokens.OWN && word <= Tokens.TWO) {
                plan.habits[house] = word - Tokens.OWN;
                take(word);
                if (word == Tokens.AS) {
                    parseModel(house);
                }
            } else {
                fail(SYNTAX);
            }
        }

        private void parseModel(int house) {
            plan.models[house] = plan.find(tokens.values[at]);
            if (kind == Tokens.NAME && plan.models[house] == NONE) {
                failLater(UNKNOWN_NAME);
            }
            take(Tokens.NAME);
        }

        private void parseLaw(int house) {
            plan.laws.begin(house);
            take('=');
            for (int ifs = 0; ifs < MOST_IFS && kind == Tokens.IF; ifs++) {
                take(Tokens.IF);
                parseSum();
                take('<');
                parseSum();
                int skip = plan.laws.emit(Laws.SKIP_UNLESS_LESS, 0);
                take(Tokens.THEN);
                parseSum();
                take(Tokens.ELSE);
                plan.laws.emit(Laws.STOP, 0);
                plan.laws.aim(skip);
            }
            if (kind == Tokens.IF) {
                fail(ROOM);
            }
            parseSum();
            plan.laws.emit(Laws.STOP, 0);
        }

        /** An E: signs wait until what binds more closely has been emitted. */
        private void parseSum() {
            waitingCount = 0;
            int open = 0;
            boolean unitIsDue = true;
            boolean ended = false;
            for (int i = 0; i <= Tokens.MOST && fault == 0 && !ended; i++) {
                if (unitIsDue && kind == '(') {
                    if (open == MOST_OPEN) {
                        fail(ROOM);
                    }
                    open++;
                    takeAndWait('(');
                } else if (unitIsDue) {
                    parseUnit();
                    unitIsDue = false;
                } else if (bindingOf(kind) > 0) {
                    emitWaiting(bindingOf(kind));
                    takeAndWait(kind);
                    unitIsDue = true;
                } else if (open > 0) {
                    take(')');
                    emitWaiting(1);
                    waitingCount--;
                    open--;
                } else {
                    ended = true;
                }
            }
            emitWaiting(1);
        }

        private void parseUnit() {
            if (kind == Tokens.INT) {
                plan.laws.emit(Laws.PUSH, (int) tokens.values[at]);
                take(Tokens.INT);
            } else if (kind >= Tokens.SIGN && kind <= Tokens.LEAD) {
                plan.laws.emit(Laws.LOOK, kind - Tokens.SIGN);
                take(kind);
            } else {
                fail(SYNTAX);
            }
        }

        private void takeAndWait(int sign) {
            take(sign);
            if (waitingCount < waiting.length) {
                waiting[waitingCount] = sign;
                waitingCount++;
            }
        }

        private void emitWaiting(int leastBinding) {
            while (waitingCount > 0 && bindingOf(waiting[waitingCount - 1]) >= leastBinding) {
                waitingCount--;
                plan.laws.emit(waiting[waitingCount], 0);
            }
        }

        private static int bindingOf(int kind) {
            if (kind == '+' || kind == '-') {
                return 1;
            }
            return kind == '*' || kind == '/' ? 2 : 0;
        }
    }

    /** What a text tells. */
    private static final class Plan {
        int houses;
        final long[] names = new long[MOST_HOUSES];
        final int[] sure = new int[MOST_HOUSES];
        final int[] sees = new int[MOST_HOUSES];
        final int[] habits = new int[MOST_HOUSES];
        final int[] models = new int[MOST_HOUSES];
        final Laws laws = new Laws();
        int brown;
        int fine;
        int both;
        int leaflet;
        int seed;

        Plan() {
            clear();
        }

        void clear() {
            houses = 0;
            laws.clear();
            brown = 5;
            fine = 10;
            both = 5;
            leaflet = 3;
            seed = 0;
        }

        int find(long name) {
            for (int house = 0; house < houses; house++) {
                if (names[house] == name) {
                    return house;
                }
            }
            return NONE;
        }

        void reckonLaws() {
            for (int house = 0; house < houses; house++) {
                if (habits[house] == LAW) {
                    laws.reckonCases(this, house);
                }
            }
        }

        int sureOf(int house, boolean hasLeaflet) {
            return hasLeaflet ? 10 : sure[house];
        }

        /** The habit that a house goes by, if habit() has set this one (NONE: as told). */
        int habitOf(int house, boolean hasLeaflet, int set) {
            if (hasLeaflet) {
                return OWN;
            }
            return set == NONE ? habits[house] : set;
        }
    }

    /** The laws of all houses as steps for a stack, one step for a token at most. */
    private static final class Laws {
        static final int PUSH = 0;
        static final int LOOK = 1;
        static final int SKIP_UNLESS_LESS = 2;
        static final int STOP = 3;
        private static final int MOST_SEEN = 5;
        private static final int CASES = 216;

        private final int[] steps = new int[Tokens.MOST + 2];
        private final int[] numbers = new int[Tokens.MOST + 2];
        private final int[] starts = new int[MOST_HOUSES];
        private final int[] looked = new int[7];
        private final int[] stack = new int[40];
        final byte[] bins = new byte[MOST_HOUSES * CASES];
        private int size;

        void clear() {
            size = 0;
        }

        void begin(int house) {
            starts[house] = size;
        }

        int emit(int step, int number) {
            int index = size;
            if (size < steps.length) {
                steps[size] = step;
                numbers[size] = number;
                size++;
            }
            return index;
        }

        /** A step that skips goes on behind what has been emitted so far. */
        void aim(int skip) {
            if (skip >= 0 && skip < size) {
                numbers[skip] = size;
            }
        }

        /** Where the bin of such a case stands in bins. */
        static int caseOf(int house, int sign, int browns, int blues, int lead) {
            int seen = browns * (MOST_SEEN + 1) + blues;
            return house * CASES + (seen * 2 + sign) * 3 + lead + 1;
        }

        /** A law can be long, and the cases that it may meet are few: all are reckoned ahead. */
        void reckonCases(Plan plan, int house) {
            looked[3] = plan.sees[house];
            looked[4] = plan.sure[house];
            looked[5] = house;
            int most = Math.min(MOST_SEEN, plan.sees[house]);
            for (int browns = 0; browns <= most; browns++) {
                for (int blues = 0; browns + blues <= most; blues++) {
                    for (int lead = -1; lead <= 1; lead++) {
                        reckonSigns(house, browns, blues, lead);
                    }
                }
            }
        }

        private void reckonSigns(int house, int browns, int blues, int lead) {
            looked[1] = browns;
            looked[2] = blues;
            looked[6] = lead;
            for (int sign = 0; sign <= 1; sign++) {
                looked[0] = sign;
                int bin = run(starts[house]) > 0 ? BROWN_BIN : BLUE_BIN;
                bins[caseOf(house, sign, browns, blues, lead)] = (byte) bin;
            }
        }

        /** What a law tells; 0 if something that is looked at is divided by 0. */
        private int run(int start) {
            int top = 0;
            for (int i = start; i >= 0 && i < size && steps[i] != STOP; i++) {
                int step = steps[i];
                if (step == PUSH || step == LOOK) {
                    if (top < stack.length) {
                        stack[top] = step == PUSH ? numbers[i] : looked[numbers[i]];
                        top++;
                    }
                } else if (top >= 2) {
                    int left = stack[top - 2];
                    int right = stack[top - 1];
                    if (step == '/' && right == 0) {
                        return 0;
                    }
                    if (step != SKIP_UNLESS_LESS) {
                        stack[top - 2] = reckon(step, left, right);
                        top--;
                    } else {
                        top -= 2;
                        if (left >= right) {
                            i = Math.max(i, numbers[i] - 1);
                        }
                    }
                }
            }
            return top > 0 ? stack[top - 1] : 0;
        }

        private static int reckon(int sign, int left, int right) {
            switch (sign) {
                case '+':
                    return left + right;
                case '-':
                    return left - right;
                case '*':
                    return left * right;
                default:
                    return right == 0 ? 0 : left / right;
            }
        }
    }

    /** All that goes on: what nights, leaflets, places and habits have come to. */
    private static final class Standing {
        static final int PLACE = 0;
        static final int HABIT = 1;
        static final int BIN = 2;
        static final int SIGN = 3;
        static final int WRONGS = 4;

        private final int[] ofHouses = new int[(WRONGS + 1) * MOST_HOUSES];
        int night;
        int leaflets;
        int coins;
        int wrongs;
        boolean lastBrown;
        int lastWrong;
        int lastPaid;

        int of(int what, int house) {
            return ofHouses[what * MOST_HOUSES + house];
        }

        void set(int what, int house, int value) {
            ofHouses[what * MOST_HOUSES + house] = value;
        }

        void clear() {
            night = 0;
            leaflets = 0;
            coins = 0;
            wrongs = 0;
            Arrays.fill(ofHouses, 0);
            for (int house = 0; house < MOST_HOUSES; house++) {
                set(PLACE, house, house);
                set(HABIT, house, NONE);
            }
        }

        void copy(Standing other) {
            System.arraycopy(other.ofHouses, 0, ofHouses, 0, ofHouses.length);
            night = other.night;
            leaflets = other.leaflets;
            coins = other.coins;
            wrongs = other.wrongs;
            lastBrown = other.lastBrown;
            lastWrong = other.lastWrong;
            lastPaid = other.lastPaid;
        }

        void record(Evening evening) {
            for (int house = 0; house < evening.houses; house++) {
                set(BIN, house, evening.nightBins[house]);
                set(SIGN, house, evening.nightSigns[house]);
                if (evening.isWrong(house)) {
                    set(WRONGS, house, of(WRONGS, house) + 1);
                }
            }
            night++;
            lastBrown = evening.nightIsBrown;
            lastWrong = evening.nightWrongs;
            lastPaid = evening.nightPaid;
            wrongs += lastWrong;
            coins += lastPaid;
        }
    }

    /** How things stood before each of the last things done. */
    private static final class Past {
        private static final int MOST_UNDONE = 40;
        private final Standing[] ring = new Standing[MOST_UNDONE];
        private int next;
        int count;

        Past() {
            for (int i = 0; i < MOST_UNDONE; i++) {
                ring[i] = new Standing();
            }
        }

        void clear() {
            count = 0;
        }

        void remember(Standing standing) {
            ring[next].copy(standing);
            next = (next + 1) % MOST_UNDONE;
            count = Math.min(count + 1, MOST_UNDONE);
        }

        boolean recall(Standing into) {
            if (count == 0) {
                return false;
            }
            next = (next + MOST_UNDONE - 1) % MOST_UNDONE;
            count--;
            into.copy(ring[next]);
            return true;
        }
    }

    /**
     * A street on an evening. The weights of all worlds are kept by what can be seen of them: the rows of bins that
     * are out ahead of a place, once for brown and once for blue; rows of place p begin at ROWS_FROM[p].
     */
    private static final class Evening {
        private static final int[] ROWS_FROM = {0, 1, 4, 13, 40, 121, 364, 1093};

        private Plan plan;
        int houses;
        private final int[] houseAt = new int[MOST_HOUSES];
        private final int[] placeOf = new int[MOST_HOUSES];
        final int[] sure = new int[MOST_HOUSES];
        private final int[] habits = new int[MOST_HOUSES];
        private final int[] seenAt = new int[MOST_HOUSES];
        private final int[] brown = new int[1093];
        private final int[] blue = new int[1093];
        private final int[] seenIfBrown = new int[364];
        private final int[] seenIfBlue = new int[364];
        final int[] wrong = new int[MOST_HOUSES];
        int bothOut;
        boolean nightIsBrown;
        final int[] nightBins = new int[MOST_HOUSES];
        final int[] nightSigns = new int[MOST_HOUSES];
        int nightWrongs;
        int nightPaid;

        /** These houses have a leaflet, and of the others those in the set go by their own sign. */
        void arrange(Plan plan, Standing now, int leaflets, int own) {
            this.plan = plan;
            houses = plan.houses;
            for (int house = 0; house < houses; house++) {
                sure[house] = plan.sureOf(house, hasBit(leaflets, house));
                habits[house] = plan.habitOf(house, hasBit(leaflets | own, house), now.of(Standing.HABIT, house));
                moveTo(house, now.of(Standing.PLACE, house));
            }
        }

        void changePlaces(int house, int other) {
            int left = placeOf[house];
            moveTo(house, placeOf[other]);
            moveTo(other, left);
        }

        private void moveTo(int house, int place) {
            placeOf[house] = place;
            houseAt[place] = house;
            seenAt[place] = Math.min(place, plan.sees[house]);
        }

        /** Goes through all worlds; all bins ahead of one place are put right (ahead of place 0 there are none). */
        void unfold(int rightPlace) {
            int end = ROWS_FROM[houses + 1];
            Arrays.fill(brown, 0, end, 0);
            Arrays.fill(blue, 0, end, 0);
            Arrays.fill(wrong, 0);
            bothOut = 0;
            brown[0] = plan.brown;
            blue[0] = 10 - plan.brown;
            for (int place = 0; place < houses; place++) {
                if (place == rightPlace) {
                    putRight(place);
                }
                if (habits[houseAt[place]] == WISE) {
                    gatherSeen(place);
                }
                spread(place);
            }
            if (rightPlace == houses) {
                putRight(houses);
            }
        }

        private void putRight(int place) {
            int from = ROWS_FROM[place];
            int ifBrown = 0;
            int ifBlue = 0;
            for (int i = from; i < ROWS_FROM[place + 1]; i++) {
                ifBrown += brown[i];
                ifBlue += blue[i];
                brown[i] = 0;
                blue[i] = 0;
            }
            brown[from + (THREES[place] - 1) / 2] = ifBrown;
            blue[from] = ifBlue;
            bothOut = 0;
            Arrays.fill(wrong, 0);
        }

        /** What a wise house may see, with the weights of brown and of blue. */
        private void gatherSeen(int place) {
            int from = ROWS_FROM[place];
            int unseen = THREES[place - seenAt[place]];
            Arrays.fill(seenIfBrown, from, ROWS_FROM[place + 1], 0);
            Arrays.fill(seenIfBlue, from, ROWS_FROM[place + 1], 0);
            for (int row = 0; row < THREES[place]; row++) {
                seenIfBrown[from + row / unseen] += brown[from + row];
                seenIfBlue[from + row / unseen] += blue[from + row];
            }
        }

        /** What the house at a place sees of the bins ahead of it, as a row of its own. */
        private int seenOf(int ahead, int place) {
            return ahead / THREES[place - seenAt[place]];
        }

        private void spread(int place) {
            int right = sure[houseAt[place]];
            int amiss = 10 - right;
            int from = ROWS_FROM[place];
            for (int row = 0; row < THREES[place]; row++) {
                int ifBrown = brown[from + row];
                int ifBlue = blue[from + row];
                if (ifBrown + ifBlue > 0) {
                    lay(place, row, binAt(place, true, row), ifBrown * right, ifBlue * amiss);
                    lay(place, row, binAt(place, false, row), ifBrown * amiss, ifBlue * right);
                }
            }
        }

        private void lay(int place, int row, int bin, int ifBrown, int ifBlue) {
            int to = ROWS_FROM[place + 1] + row + bin * THREES[place];
            brown[to] += ifBrown;
            blue[to] += ifBlue;
            int behind = TENS[houses - 1 - place];
            if (bin == BOTH_BINS) {
                bothOut += (ifBrown + ifBlue) * behind;
            } else {
                wrong[houseAt[place]] += (bin == BROWN_BIN ? ifBlue : ifBrown) * behind;
            }
        }

        int allWrong() {
            int all = 0;
            for (int house = 0; house < houses; house++) {
                all += wrong[house];
            }
            return all;
        }

        int weightOfRow(int row, boolean isBrown) {
            int index = ROWS_FROM[houses] + row % THREES[houses];
            return isBrown ? brown[index] : blue[index];
        }

        int weightOfWrongs(int n) {
            int weight = 0;
            for (int row = 0; row < THREES[houses]; row++) {
                if (binsOf(BLUE_BIN, row, houses) == n) {
                    weight += brown[ROWS_FROM[houses] + row];
                }
                if (binsOf(BROWN_BIN, row, houses) == n) {
                    weight += blue[ROWS_FROM[houses] + row];
                }
            }
            return weight;
        }

        /** How many such bins there are in the first places of a row. */
        private static int binsOf(int bin, int row, int places) {
            int count = 0;
            int rest = row;
            for (int place = 0; place < places; place++) {
                if (rest % 3 == bin) {
                    count++;
                }
                rest /= 3;
            }
            return count;
        }

        /** What the house at a place puts out; what the row holds of places behind is not looked at. */
        int binAt(int place, boolean brownSign, int row) {
            int house = houseAt[place];
            int sign = brownSign ? BROWN_BIN : BLUE_BIN;
            int ahead = row % THREES[place];
            switch (habits[house]) {
                case MOST:
                    return binByMost(place, sign, ahead);
                case FIRST:
                    return place == 0 ? sign : oneBin(ahead % 3, sign);
                case AS:
                    return binOfModel(place, sign, ahead);
                case WISE:
                    return binByWorlds(place, sign, ahead);
                case TWO:
                    return BOTH_BINS;
                case LAW:
                    return binByLaw(place, sign, ahead);
                default:
                    return sign;
            }
        }

        private static int oneBin(int bin, int sign) {
            return bin == BOTH_BINS ? sign : bin;
        }

        private int binByMost(int place, int sign, int ahead) {
            int seen = seenOf(ahead, place);
            int more = binsOf(BROWN_BIN, seen, seenAt[place]) - binsOf(BLUE_BIN, seen, seenAt[place]);
            if (more == 0) {
                return sign;
            }
            return more > 0 ? BROWN_BIN : BLUE_BIN;
        }

        private int binOfModel(int place, int sign, int ahead) {
            int model = plan.models[houseAt[place]];
            if (model < 0 || model >= houses || placeOf[model] >= place) {
                return sign;
            }
            return oneBin(ahead / THREES[placeOf[model]] % 3, sign);
        }

        private int binByWorlds(int place, int sign, int ahead) {
            int index = ROWS_FROM[place] + seenOf(ahead, place);
            int right = sure[houseAt[place]];
            int ifBrown = seenIfBrown[index] * (sign == BROWN_BIN ? right : 10 - right);
            int ifBlue = seenIfBlue[index] * (sign == BLUE_BIN ? right : 10 - right);
            if (ifBrown == ifBlue) {
                return sign;
            }
            return ifBrown > ifBlue ? BROWN_BIN : BLUE_BIN;
        }

        private int binByLaw(int place, int sign, int ahead) {
            int seen = seenOf(ahead, place);
            int browns = binsOf(BROWN_BIN, seen, seenAt[place]);
            int blues = binsOf(BLUE_BIN, seen, seenAt[place]);
            int lead = ahead % 3 == BROWN_BIN ? 1 : 0;
            return plan.laws.bins[Laws.caseOf(houseAt[place], sign, browns, blues, place == 0 ? -1 : lead)];
        }

        /** One night by a seed. */
        void goBy(int seed, int night) {
            nightIsBrown = lotOfTen(seed, 16 * night) < plan.brown;
            nightWrongs = 0;
            nightPaid = 0;
            int row = 0;
            for (int place = 0; place < houses; place++) {
                int house = houseAt[place];
                boolean isRight = lotOfTen(seed, 16 * night + 1 + house) < sure[house];
                boolean sign = isRight == nightIsBrown;
                nightSigns[house] = sign ? BROWN_BIN : BLUE_BIN;
                nightBins[house] = binAt(place, sign, row);
                row += nightBins[house] * THREES[place];
                if (nightBins[house] == BOTH_BINS) {
                    nightPaid += plan.both;
                } else if (isWrong(house)) {
                    nightPaid += plan.fine;
                    nightWrongs++;
                }
            }
        }

        boolean isWrong(int house) {
            return nightBins[house] == (nightIsBrown ? BLUE_BIN : BROWN_BIN);
        }

        private static int lotOfTen(int seed, int which) {
            int mixed = stir(stir(seed, 53), which);
            return (mixed >>> 1) % 10;
        }

        private static int stir(int mixed, int more) {
            int stirred = (mixed ^ more) * 1103515245 + 12345;
            return stirred ^ stirred >>> 15;
        }
    }

    /** Bins after all have looked over the fence, beginning with those of the last night. */
    private static final class Fence {
        private final int[] before = new int[MOST_HOUSES];
        private final int[] after = new int[MOST_HOUSES];
        int rounds;
        int row;

        void settle(Standing now, int houses) {
            for (int house = 0; house < houses; house++) {
                after[now.of(Standing.PLACE, house)] = now.of(Standing.BIN, house);
            }
            rounds = 0;
            while (rounds < MOST_ROUNDS && lookOver(houses)) {
                rounds++;
            }
            row = 0;
            for (int place = 0; place < houses; place++) {
                row += after[place] * THREES[place];
            }
        }

        private boolean lookOver(int houses) {
            boolean changed = false;
            System.arraycopy(after, 0, before, 0, MOST_HOUSES);
            for (int place = 1; place < houses - 1; place++) {
                int bin = before[place - 1];
                if (bin != BOTH_BINS && bin == before[place + 1] && bin != before[place]) {
                    after[place] = bin;
                    changed = true;
                }
            }
            return changed;
        }
    }

    /** What is told of bins that houses put out. */
    private static final class Diary {
        private static final int MOST_TOLD = 20;
        private static final int HABITS = 5;

        private final int[] houses = new int[MOST_TOLD];
        private final int[] more = new int[MOST_TOLD];
        private final boolean[] signs = new boolean[MOST_TOLD];
        private final boolean[] leads = new boolean[MOST_TOLD];
        private final boolean[] brown = new boolean[MOST_TOLD];
        int count;

        void clear() {
            count = 0;
        }

        int add(int house, int browns, int blues, boolean sign, boolean lead, boolean isBrown) {
            if (count >= MOST_TOLD) {
                return NONE;
            }
            houses[count] = house;
            more[count] = browns - blues;
            signs[count] = sign;
            leads[count] = lead;
            brown[count] = isBrown;
            count++;
            return count - 1;
        }

        int habitsThatFit(int house, int known) {
            int bits = 0;
            for (int habit = 0; habit < HABITS; habit++) {
                if (allFit(habit, house, known)) {
                    bits |= 1 << habit;
                }
            }
            return bits;
        }

        private boolean allFit(int habit, int house, int known) {
            for (int i = 0; i < known && i < count; i++) {
                if (houses[i] == house && isBrownBy(habit, i) != brown[i]) {
                    return false;
                }
            }
            return true;
        }

        private boolean isBrownBy(int habit, int i) {
            switch (habit) {
                case 1:
                    return more[i] == 0 ? signs[i] : more[i] > 0;
                case 2:
                    return leads[i];
                case 3:
                    return !signs[i];
                case 4:
                    return more[i] == 0 ? signs[i] : more[i] < 0;
                default:
                    return signs[i];
            }
        }
    }
}
