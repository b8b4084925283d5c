/** Promises 31 to 33: what was seen, and the habits that fit it. */
public final class SeenTest {
    private static final int NONE = WhichBin.NONE;
    private static final int OWN = 1;
    private static final int MOST = 2;
    private static final int FIRST = 4;
    private static final int OTHER = 8;
    private static final int FEWEST = 16;

    public static void main(String[] args) {
        oneAtATime();
        known();
        limits();
        Check.finish("SeenTest");
    }

    private static void fits(boolean sign, int browns, int blues, boolean lead, int ifBrown) {
        WhichBin x = Check.with("house a 5 0 own; house b 5 0 own;");
        Check.due("tell", x.tell(1, sign, browns, blues, lead, true), 0);
        Check.due("fits", x.fits(1, 1), ifBrown);
        x.forget();
        Check.due("tell", x.tell(1, sign, browns, blues, lead, false), 0);
        Check.due("fits", x.fits(1, 1), 31 - ifBrown);
        Check.due("fits of the other house", x.fits(0, 1), 31);
        Check.due("fits of none", x.fits(1, 0), 31);
    }

    private static void oneAtATime() {
        fits(true, 2, 1, false, OWN | MOST);
        fits(true, 1, 2, false, OWN | FEWEST);
        fits(true, 0, 0, true, OWN | MOST | FIRST | FEWEST);
        fits(false, 3, 3, true, FIRST | OTHER);
        fits(false, 6, 0, false, MOST | OTHER);
        fits(false, 0, 6, true, FIRST | OTHER | FEWEST);
    }

    private static void known() {
        WhichBin x = Check.with("house a 5 0 own; house b 5 0 own;");
        x.tell(0, true, 1, 0, true, true);
        x.tell(1, true, 1, 0, true, false);
        x.tell(0, true, 0, 1, true, true);
        x.tell(0, false, 0, 1, true, true);
        Check.due("fits(0, 1)", x.fits(0, 1), OWN | MOST | FIRST);
        Check.due("fits(0, 2)", x.fits(0, 2), OWN | MOST | FIRST);
        Check.due("fits(0, 3)", x.fits(0, 3), OWN | FIRST);
        Check.due("fits(0, 4)", x.fits(0, 4), FIRST);
        Check.due("fits(1, 1)", x.fits(1, 1), 31);
        Check.due("fits(1, 4)", x.fits(1, 4), OTHER | FEWEST);
        Check.due("fits(0, 5)", x.fits(0, 5), NONE);
        Check.due("fits(0, -1)", x.fits(0, -1), NONE);
        Check.due("fits(2, 1)", x.fits(2, 1), NONE);
        Check.due("fits(-1, 1)", x.fits(-1, 1), NONE);
        x.swap(0, 1);
        x.undo();
        Check.due("TOLD ones stay", x.count(10), 4);
        Check.due("forget()", x.forget(), 4);
        Check.due("forget()", x.forget(), 0);
        Check.due("fits(0, 1)", x.fits(0, 1), NONE);
        Check.due("fits(0, 0)", x.fits(0, 0), 31);
        Check.due("tell() is numbered from 0 on again", x.tell(0, true, 0, 0, true, true), 0);
        Check.due("undo()", x.undo(), false);
    }

    private static void limits() {
        WhichBin x = Check.with("house a 5 0 own;");
        int[] wrong = {-1, 7, Integer.MAX_VALUE, Integer.MIN_VALUE};
        for (int n : wrong) {
            Check.due("tell of browns " + n, x.tell(0, true, n, 0, true, true), NONE);
            Check.due("tell of blues " + n, x.tell(0, true, 0, n, true, true), NONE);
            Check.due("tell of house " + n, x.tell(n, true, 0, 0, true, true), NONE);
        }
        Check.due("tell of house 1", x.tell(1, true, 0, 0, true, true), NONE);
        Check.due("TOLD", x.count(10), 0);
        for (int i = 0; i < 20; i++) {
            Check.due("tell", x.tell(0, true, 6, 6, true, true), i);
        }
        Check.due("a 21st", x.tell(0, true, 0, 0, true, true), NONE);
        Check.due("TOLD", x.count(10), 20);
        Check.due("fits(0, 20)", x.fits(0, 20), OWN | MOST | FIRST | FEWEST);
        Check.due("fits(0, 21)", x.fits(0, 21), NONE);
    }
}
