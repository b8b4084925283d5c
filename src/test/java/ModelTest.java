import java.util.Random;

/** Runs of calls by lot: every answer of WhichBin is held against that of the plain Model. */
public final class ModelTest {
    private static final int RUNS = Integer.getInteger("runs", 250);
    private static final int CALLS = 160;
    private final Random lots;
    private final RandomTexts texts;
    private final WhichBin x = new WhichBin();
    private final Model m = new Model();
    private final int run;

    private ModelTest(int run) {
        this.run = run;
        lots = new Random(run);
        texts = new RandomTexts(run + 5000);
    }

    public static void main(String[] args) {
        for (int run = 0; run < RUNS; run++) {
            new ModelTest(run).go();
        }
        Check.finish("ModelTest");
    }

    private void go() {
        text();
        for (int i = 0; i < CALLS; i++) {
            call(lots.nextInt(40));
        }
    }

    private void due(String call, int got, int want) {
        Check.due("run " + run + ": " + call, got, want);
    }

    private void due(String call, boolean got, boolean want) {
        Check.due("run " + run + ": " + call, got, want);
    }

    private void text() {
        String text = texts.next();
        for (int from = 0; from < text.length(); from += 20) {
            int[] w = Check.words(text, from);
            due("feed", x.feed(w[0], w[1], w[2], w[3], w[4]), m.feed(w));
        }
        int blanks = (20 - text.length() % 20) % 20;
        due("back", x.back(blanks), m.back(blanks));
        due("count(8)", x.count(8), m.count(8));
        due("read " + text, x.read(), m.read());
        due("place " + text, x.place(), m.place());
        for (int what = 0; what <= 12; what++) {
            due("count(" + what + ")", x.count(what), m.count(what));
        }
    }

    private int lot(int from, int to) {
        return from + lots.nextInt(to - from + 1);
    }

    private boolean flip() {
        return lots.nextBoolean();
    }

    private int house() {
        return lots.nextInt(8) == 0 ? lot(-1, 6) : lot(0, Math.max(0, m.n() - 1));
    }

    /** A row by lot, or one that comes of a night, which can be. */
    private int row() {
        return lots.nextInt(12) == 0 ? lot(-2, 730) : flip() ? lot(0, 728) : flip() ? 0 : 364;
    }

    private void call(int kind) {
        int h = house();
        int k = lot(-2, 7);
        int row = row();
        boolean b = flip();
        switch (kind) {
            case 0:
                if (lots.nextInt(3) == 0) {
                    text();
                }
                break;
            case 1:
            case 2:
                k = lots.nextInt(6) == 0 ? lot(-1, 52) : lot(0, 3);
                due("nights(" + k + ")", x.nights(k), m.nights(k));
                break;
            case 3:
            case 4:
                due("leaflet(" + h + ", " + b + ")", x.leaflet(h, b), m.leaflet(h, b));
                break;
            case 5:
            case 6:
                k = house();
                due("swap(" + h + ", " + k + ")", x.swap(h, k), m.swap(h, k));
                break;
            case 7:
            case 8:
                due("habit(" + h + ", " + k + ")", x.habit(h, k), m.habit(h, k));
                break;
            case 9:
            case 10:
                due("undo()", x.undo(), m.undo());
                break;
            case 11:
                k = lot(-1, 3);
                due("hold(" + k + ")", x.hold(k), m.hold(k));
                break;
            case 12:
                k = lot(-1, 3);
                due("restore(" + k + ")", x.restore(k), m.restore(k));
                break;
            case 13:
            case 14:
                due("house(" + h + ", " + k + ")", x.house(h, k), m.house(h, k));
                break;
            case 15:
                due("night(" + k + ")", x.night(k), m.night(k));
                break;
            case 16:
            case 17:
                due("puts(" + h + ", " + b + ", " + row + ")", x.puts(h, b, row), m.puts(h, b, row));
                break;
            case 18:
                due("chance(" + h + ", " + b + ")", x.chance(h, b), m.chance(h, b));
                break;
            case 19:
                due("street(" + k + ", " + b + ")", x.street(k, b), m.street(k, b));
                break;
            case 20:
                due("mean(" + b + ")", x.mean(b), m.mean(b));
                break;
            case 21:
                due("pays(" + b + ")", x.pays(b), m.pays(b));
                break;
            case 22:
                due("tells(" + row + ", " + b + ")", x.tells(row, b), m.tells(row, b));
                break;
            case 23:
                due("herd(" + row + ")", x.herd(row), m.herd(row));
                break;
            case 24:
                due("whom(" + k + ")", x.whom(k), m.whom(k));
                break;
            case 25:
                due("worth(" + h + ", " + b + ")", x.worth(h, b), m.worth(h, b));
                break;
            case 26:
                k = flip() ? lot(-1, 61) : lot(0, 20);
                due("fewest(" + k + ")", x.fewest(k), m.fewest(k));
                break;
            case 27:
                due("bestSwap()", x.bestSwap(), m.bestSwap());
                break;
            case 28:
                due("hour(" + k + ", " + b + ")", x.hour(k, b), m.hour(k, b));
                break;
            case 29:
                due("bestHour()", x.bestHour(), m.bestHour());
                break;
            case 30:
                due("two()", x.two(), m.two());
                break;
            case 31:
                due("better()", x.better(), m.better());
                break;
            case 32:
                due("rests(" + k + ")", x.rests(k), m.rests(k));
                break;
            case 33:
                due("fence(" + k + ")", x.fence(k), m.fence(k));
                break;
            case 34:
                int s = lot(0, 11);
                k = flip() ? lot(0, 51) : lot(1, 5);
                due("year(" + k + ", " + s + ")", x.year(k, s), m.year(k, s));
                break;
            case 35:
                int browns = lots.nextInt(9) == 0 ? lot(-1, 7) : lot(0, 2);
                int blues = lots.nextInt(9) == 0 ? lot(-1, 7) : lot(0, 2);
                boolean lead = flip();
                boolean brown = lots.nextInt(3) == 0 ? flip() : b;
                due("tell", x.tell(h, b, browns, blues, lead, brown), m.tell(h, b, browns, blues, lead, brown));
                break;
            case 36:
                if (lots.nextInt(6) == 0) {
                    due("forget()", x.forget(), m.forget());
                }
                break;
            case 37:
                k = lot(-1, m.told.size() + 1);
                due("fits(" + h + ", " + k + ")", x.fits(h, k), m.fits(h, k));
                break;
            default:
                k = lot(-1, 14);
                due("count(" + k + ")", x.count(k), m.count(k));
                break;
        }
    }
}
