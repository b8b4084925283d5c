import java.util.Random;

/**
 * Streets by lot, a few things done, and then every question with nearly all its arguments: each answer is held against
 * that of the plain Model.
 */
public final class SweepModelTest {
    private static final int STREETS = Integer.getInteger("streets", 200);
    private static final int MOST_SETS = 64;
    private final Random lots;
    private final WhichBin x = new WhichBin();
    private final Model m = new Model();
    private final int street;

    private SweepModelTest(int street) {
        this.street = street;
        lots = new Random(street + 900);
    }

    public static void main(String[] args) {
        RandomTexts texts = new RandomTexts(31);
        for (int street = 0; street < STREETS; street++) {
            new SweepModelTest(street).go(goodText(texts));
        }
        Check.finish("SweepModelTest");
    }

    /** A text without a fault that leaves enough of the 512 calls for what is asked then. */
    private static String goodText(RandomTexts texts) {
        while (true) {
            Model model = new Model();
            model.tape = texts.next();
            String text = model.tape;
            if (text.length() <= 1000 && model.read() == 0) {
                return text;
            }
        }
    }

    private void go(String text) {
        m.tape = text;
        due("read of " + text, Check.read(x, text), m.read());
        doThings();
        whatIs();
        howLikely();
        whatIfChanged();
        rows();
        seen();
    }

    private void due(String call, int got, int want) {
        Check.due("street " + street + ": " + call, got, want);
    }

    private int lot(int from, int to) {
        return from + lots.nextInt(to - from + 1);
    }

    private void doThings() {
        int things = lot(0, 9);
        for (int i = 0; i < things; i++) {
            int house = lot(0, 5);
            int other = lot(0, 5);
            switch (lots.nextInt(7)) {
                case 0:
                    Check.due("leaflet", x.leaflet(house, true), m.leaflet(house, true));
                    break;
                case 1:
                    Check.due("habit", x.habit(house, other), m.habit(house, other));
                    break;
                case 2:
                    Check.due("undo", x.undo(), m.undo());
                    break;
                case 3:
                case 4:
                    Check.due("swap", x.swap(house, other), m.swap(house, other));
                    break;
                default:
                    due("nights", x.nights(other), m.nights(other));
                    break;
            }
        }
    }

    private void whatIs() {
        for (int what = -1; what <= 7; what++) {
            for (int house = 0; house < 6; house++) {
                due("house(" + house + ", " + what + ")", x.house(house, what), m.house(house, what));
            }
        }
        for (int what = -1; what <= 13; what++) {
            due("count(" + what + ")", x.count(what), m.count(what));
        }
        for (int what = 0; what <= 2; what++) {
            due("night(" + what + ")", x.night(what), m.night(what));
        }
        due("fence(0)", x.fence(0), m.fence(0));
        due("fence(1)", x.fence(1), m.fence(1));
        int nights = lot(1, 50);
        int seeds = lot(1, 10);
        due("year(" + nights + ", " + seeds + ")", x.year(nights, seeds), m.year(nights, seeds));
    }

    private void howLikely() {
        for (int below = 0; below <= 1; below++) {
            boolean b = below == 1;
            for (int house = 0; house < 6; house++) {
                due("chance(" + house + ", " + b + ")", x.chance(house, b), m.chance(house, b));
                due("worth(" + house + ", " + b + ")", x.worth(house, b), m.worth(house, b));
            }
            for (int n = 0; n <= 6; n++) {
                due("street(" + n + ", " + b + ")", x.street(n, b), m.street(n, b));
                due("hour(" + n + ", " + b + ")", x.hour(n, b), m.hour(n, b));
            }
            due("mean(" + b + ")", x.mean(b), m.mean(b));
            due("pays(" + b + ")", x.pays(b), m.pays(b));
        }
        due("bestHour()", x.bestHour(), m.bestHour());
        due("two()", x.two(), m.two());
        due("better()", x.better(), m.better());
    }

    private void whatIfChanged() {
        for (int n = 0; n <= 6; n++) {
            due("whom(" + n + ")", x.whom(n), m.whom(n));
            int tenths = n < 4 ? lot(0, 12) : lot(0, 60);
            due("fewest(" + tenths + ")", x.fewest(tenths), m.fewest(tenths));
        }
        due("bestSwap()", x.bestSwap(), m.bestSwap());
        int count = m.rests(-1);
        due("rests(-1)", x.rests(-1), count);
        for (int i = lot(0, 3); i <= count && i < MOST_SETS; i += lot(1, 8)) {
            due("rests(" + i + ")", x.rests(i), m.rests(i));
        }
    }

    /** Rows by lot, and such as can be: each bin is what its house would put out with one sign. */
    private void rows() {
        for (int i = 0; i < 24; i++) {
            int row = i < 8 ? lot(0, 728) : rowThatCanBe();
            int house = lot(0, 5);
            due("tells(" + row + ", false)", x.tells(row, false), m.tells(row, false));
            due("tells(" + row + ", true)", x.tells(row, true), m.tells(row, true));
            due("herd(" + row + ")", x.herd(row), m.herd(row));
            due("puts(" + house + ", true, " + row + ")", x.puts(house, true, row), m.puts(house, true, row));
            due("puts(" + house + ", false, " + row + ")", x.puts(house, false, row), m.puts(house, false, row));
        }
    }

    private int rowThatCanBe() {
        int row = 0;
        int three = 1;
        for (int place = 0; place < m.n(); place++) {
            for (int house = 0; house < m.n(); house++) {
                if (m.house(house, 0) == place) {
                    row += m.puts(house, lots.nextBoolean(), row) * three;
                }
            }
            three *= 3;
        }
        return row;
    }

    private void seen() {
        int told = lot(0, 8);
        for (int i = 0; i < told; i++) {
            int house = lot(0, 1);
            boolean sign = lots.nextBoolean();
            boolean lead = lots.nextBoolean();
            boolean brown = lots.nextInt(3) == 0 ? lots.nextBoolean() : sign;
            int browns = lot(0, 3);
            int blues = lot(0, 3);
            due("tell", x.tell(house, sign, browns, blues, lead, brown), m.tell(house, sign, browns, blues, lead, brown));
        }
        for (int k = 0; k <= told; k++) {
            due("fits(0, " + k + ")", x.fits(0, k), m.fits(0, k));
            due("fits(1, " + k + ")", x.fits(1, k), m.fits(1, k));
        }
    }
}
