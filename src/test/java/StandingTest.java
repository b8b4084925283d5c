/** Promises 6 to 12 and 34 to 36: what is, what is done, undone and held. */
public final class StandingTest {
    /** Brown always; a is right, b is wrong always, c puts out both, d as a. */
    private static final String SURE = "house a 10 0 own; house b 0 6 own; house c 5 6 two; house d 5 0 as a;"
            + "brown 10; fine 7; both 4; leaflet 9;";

    public static void main(String[] args) {
        houseAndNight();
        lots();
        leaflets();
        swaps();
        habits();
        undo();
        slots();
        counts();
        Check.finish("StandingTest");
    }

    private static void houseAndNight() {
        WhichBin x = Check.with(SURE);
        Check.due("nights(0)", x.nights(0), 0);
        Check.due("nothing done", x.count(9), 0);
        Check.due("nights(-1)", x.nights(-1), WhichBin.NONE);
        Check.due("nights(51)", x.nights(51), WhichBin.NONE);
        for (int what = 0; what <= 2; what++) {
            Check.due("night before", x.night(what), -2);
        }
        Check.due("night(3) before", x.night(3), WhichBin.NONE);
        Check.due("night(-1) before", x.night(-1), WhichBin.NONE);
        Check.due("house(0, 4) before", x.house(0, 4), -2);
        Check.due("house(0, 5) before", x.house(0, 5), -2);
        Check.due("house(4, 4) before", x.house(4, 4), WhichBin.NONE);
        Check.due("nights(1)", x.nights(1), 1);
        Check.due("brown", x.night(0), 1);
        Check.due("WRONG", x.night(1), 1);
        Check.due("paid", x.night(2), 11);
        Check.due("night(3)", x.night(3), WhichBin.NONE);
        Check.due("night(-1)", x.night(-1), WhichBin.NONE);
        int[] bins = {1, 0, 2, 1};
        int[] wrongs = {0, 1, 0, 0};
        for (int house = 0; house < 4; house++) {
            Check.due("PLACE of " + house, x.house(house, 0), house);
            Check.due("bin of " + house, x.house(house, 4), bins[house]);
            Check.due("WRONGS of " + house, x.house(house, 6), wrongs[house]);
            Check.due("leaflet of " + house, x.house(house, 3), 0);
            Check.due("house(.., 7)", x.house(house, 7), WhichBin.NONE);
            Check.due("house(.., -1)", x.house(house, -1), WhichBin.NONE);
        }
        Check.due("sign of 0", x.house(0, 5), 1);
        Check.due("sign of 1", x.house(1, 5), 0);
        Check.due("house(-1, 0)", x.house(-1, 0), WhichBin.NONE);
        Check.due("house(4, 0)", x.house(4, 0), WhichBin.NONE);
        Check.due("nights(50)", x.nights(50), 51);
        Check.due("WRONGS of 1", x.house(1, 6), 51);
        Check.due("COINS", x.count(2), 51 * 11);
        Check.due("all WRONGS", x.count(4), 51);
        Check.due("last night's WRONG", x.night(1), 1);
        Check.due("last night's price", x.night(2), 11);
    }

    private static int stir(int h, int it) {
        h = (h ^ it) * 1103515245 + 12345;
        return h ^ (h >>> 15);
    }

    private static int lot(int seed, int which) {
        return (stir(stir(seed, 53), which) >>> 1) % 10;
    }

    private static void lots() {
        for (int seed = 0; seed <= 9999; seed += 1111) {
            WhichBin x = Check.with("house a 5 0 own; house b 7 0 own; house c 2 0 own; brown 4; seed " + seed + ";");
            int[] sure = {5, 7, 2};
            for (int night = 0; night < 12; night++) {
                x.nights(1);
                int brown = lot(seed, 16 * night) < 4 ? 1 : 0;
                Check.due("seed " + seed + ": colour of night " + night, x.night(0), brown);
                for (int house = 0; house < 3; house++) {
                    boolean right = lot(seed, 16 * night + 1 + house) < sure[house];
                    Check.due("seed " + seed + ": sign of " + house, x.house(house, 5), right ? brown : 1 - brown);
                    Check.due("seed " + seed + ": bin of " + house, x.house(house, 4), right ? brown : 1 - brown);
                }
            }
        }
    }

    private static void leaflets() {
        WhichBin x = Check.with(SURE);
        Check.due("leaflet taken that is not there", x.leaflet(1, false), false);
        Check.due("leaflet(4, true)", x.leaflet(4, true), false);
        Check.due("leaflet(-1, true)", x.leaflet(-1, true), false);
        Check.due("nothing done", x.count(9), 0);
        Check.due("leaflet(2, true)", x.leaflet(2, true), true);
        Check.due("leaflet(2, true) again", x.leaflet(2, true), false);
        Check.due("SURE", x.house(2, 1), 10);
        Check.due("HABIT", x.house(2, 2), 0);
        Check.due("has one", x.house(2, 3), 1);
        Check.due("LEAFLETS", x.count(3), 4);
        Check.due("COINS", x.count(2), 9);
        Check.due("leaflet(1, true)", x.leaflet(1, true), true);
        Check.due("LEAFLETS", x.count(3), 6);
        Check.due("COINS", x.count(2), 18);
        x.nights(1);
        Check.due("bin of 1", x.house(1, 4), 1);
        Check.due("bin of 2", x.house(2, 4), 1);
        Check.due("COINS", x.count(2), 18);
        Check.due("leaflet(2, false)", x.leaflet(2, false), true);
        Check.due("COINS", x.count(2), 18);
        Check.due("SURE again", x.house(2, 1), 5);
        Check.due("HABIT again", x.house(2, 2), 5);
        Check.due("LEAFLETS", x.count(3), 2);
        Check.due("things to undo", x.count(9), 4);
    }

    private static void swaps() {
        WhichBin x = Check.with(SURE);
        Check.due("swap(1, 1)", x.swap(1, 1), false);
        Check.due("swap(-1, 1)", x.swap(-1, 1), false);
        Check.due("swap(1, 4)", x.swap(1, 4), false);
        Check.due("swap(4, 1)", x.swap(4, 1), false);
        Check.due("nothing done", x.count(9), 0);
        Check.due("swap(0, 3)", x.swap(0, 3), true);
        Check.due("PLACE of 0", x.house(0, 0), 3);
        Check.due("PLACE of 3", x.house(3, 0), 0);
        Check.due("swap(3, 1)", x.swap(3, 1), true);
        Check.due("PLACE of 3", x.house(3, 0), 1);
        Check.due("PLACE of 1", x.house(1, 0), 0);
        Check.due("PLACE of 2", x.house(2, 0), 2);
        // a, whom d goes by, is behind d now
        Check.due("d by its own sign", x.puts(3, false, 27), 0);
        Check.due("things to undo", x.count(9), 2);
    }

    private static void habits() {
        WhichBin x = Check.with(SURE + "house e 5 0 = 1;");
        int[] none = {3, 6, 7, -2, 100};
        for (int habit : none) {
            Check.due("habit(0, " + habit + ")", x.habit(0, habit), false);
        }
        Check.due("habit(0, NONE) at first", x.habit(0, WhichBin.NONE), false);
        Check.due("habit(5, 0)", x.habit(5, 0), false);
        Check.due("habit(-1, 0)", x.habit(-1, 0), false);
        Check.due("nothing done", x.count(9), 0);
        int[] some = {0, 1, 2, 4, 5};
        for (int habit : some) {
            Check.due("habit(4, " + habit + ")", x.habit(4, habit), true);
            Check.due("HABIT", x.house(4, 2), habit);
            Check.due("habit(4, " + habit + ") again", x.habit(4, habit), false);
        }
        Check.due("habit(4, NONE)", x.habit(4, WhichBin.NONE), true);
        Check.due("HABIT as told", x.house(4, 2), 6);
        Check.due("habit(4, NONE) again", x.habit(4, WhichBin.NONE), false);
        Check.due("habit(0, 0), as told, but not set yet", x.habit(0, 0), true);
        Check.due("things to undo", x.count(9), 7);
        x.habit(2, 1);
        x.leaflet(2, true);
        Check.due("HABIT with a leaflet", x.house(2, 2), 0);
        Check.due("set under a leaflet", x.habit(2, 4), true);
        x.leaflet(2, false);
        Check.due("HABIT without", x.house(2, 2), 4);
    }

    private static void undo() {
        WhichBin x = Check.with(SURE);
        x.nights(2);
        x.nights(3);
        x.leaflet(1, true);
        x.swap(0, 1);
        x.habit(3, 5);
        Check.due("things", x.count(9), 5);
        Check.due("undo habit", x.undo(), true);
        Check.due("HABIT", x.house(3, 2), 3);
        Check.due("habit was NONE before", x.habit(3, WhichBin.NONE), false);
        Check.due("undo swap", x.undo(), true);
        Check.due("PLACE", x.house(0, 0), 0);
        Check.due("COINS", x.count(2), 64);
        Check.due("undo leaflet", x.undo(), true);
        Check.due("COINS", x.count(2), 55);
        Check.due("LEAFLETS", x.count(3), 0);
        Check.due("undo nights", x.undo(), true);
        Check.due("night", x.count(1), 2);
        Check.due("COINS", x.count(2), 22);
        Check.due("WRONGS", x.count(4), 2);
        Check.due("WRONGS of 1", x.house(1, 6), 2);
        Check.due("undo nights", x.undo(), true);
        Check.due("no night", x.night(0), -2);
        Check.due("no bins", x.house(0, 4), -2);
        Check.due("undo", x.undo(), false);
        for (int i = 0; i < 45; i++) {
            x.swap(i % 3, i % 3 + 1);
            Check.due("things", x.count(9), Math.min(i + 1, 40));
        }
        for (int i = 0; i < 40; i++) {
            Check.due("undo " + i, x.undo(), true);
        }
        Check.due("a 41st", x.undo(), false);
        Check.due("things", x.count(9), 0);
        // five swaps are left: 0 1, 1 2, 2 3, 0 1, 1 2
        int[] places = {2, 3, 1, 0};
        for (int house = 0; house < 4; house++) {
            Check.due("PLACE of " + house, x.house(house, 0), places[house]);
        }
    }

    private static void slots() {
        WhichBin x = Check.with(SURE);
        Check.due("hold(-1)", x.hold(-1), false);
        Check.due("hold(3)", x.hold(3), false);
        Check.due("restore(0)", x.restore(0), false);
        Check.due("restore(-1)", x.restore(-1), false);
        Check.due("restore(3)", x.restore(3), false);
        x.nights(2);
        x.leaflet(0, true);
        x.tell(0, true, 0, 0, true, true);
        Check.due("hold(2)", x.hold(2), true);
        Check.due("SLOTS", x.count(11), 1);
        Check.due("things", x.count(9), 2);
        x.swap(0, 1);
        x.habit(2, 0);
        x.nights(5);
        x.tell(0, true, 0, 0, true, true);
        Check.feed(x, "seed");
        Check.due("restore(0)", x.restore(0), false);
        Check.due("things", x.count(9), 5);
        Check.due("hold(0)", x.hold(0), true);
        Check.due("restore(2)", x.restore(2), true);
        Check.due("things", x.count(9), 0);
        Check.due("undo()", x.undo(), false);
        Check.due("night", x.count(1), 2);
        Check.due("COINS", x.count(2), 31);
        Check.due("PLACE", x.house(0, 0), 0);
        Check.due("HABIT", x.house(2, 2), 5);
        Check.due("TOLD", x.count(10), 2);
        Check.due("tape", x.count(8), 4);
        Check.due("SLOTS", x.count(11), 2);
        x.nights(1);
        Check.due("restore(2) again", x.restore(2), true);
        Check.due("night", x.count(1), 2);
        Check.due("restore(0)", x.restore(0), true);
        Check.due("night", x.count(1), 7);
        Check.due("PLACE", x.house(0, 0), 1);
        Check.due("HABIT", x.house(2, 2), 0);
        Check.due("hold(2) in place of the other", x.hold(2), true);
        Check.due("SLOTS", x.count(11), 2);
        x.undo();
        x.restore(2);
        Check.due("night", x.count(1), 7);
        Check.due("hold(1)", x.hold(1), true);
        Check.due("SLOTS", x.count(11), 3);
    }

    private static void counts() {
        WhichBin x = Check.with(SURE);
        Check.due("HOUSES", x.count(0), 4);
        Check.due("count(-1)", x.count(-1), WhichBin.NONE);
        Check.due("count(13)", x.count(13), WhichBin.NONE);
        Check.due("BROWN", x.count(5), 10);
        Check.due("FINE", x.count(6), 7);
        Check.due("BOTH", x.count(7), 4);
        Check.due("price", x.count(12), 9);
    }
}
