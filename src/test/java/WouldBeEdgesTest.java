/**
 * Each sentence on what would be and on what was seen that names an edge (parts III and IV, promises 14 to 33), with a
 * test of its own.
 */
public final class WouldBeEdgesTest {
    private static final int NONE = WhichBin.NONE;
    private static final int MIN = Integer.MIN_VALUE;
    private static final int MAX = Integer.MAX_VALUE;
    private static final int OWN = 1;
    private static final int MOST = 2;
    private static final int FIRST = 4;
    private static final int OTHER = 8;
    private static final int FEWEST = 16;
    /** By which SURE an own sign is wrong so often. */
    private static final int[][] WRONG_BY_SURE = {{1, 1}, {9, 10}, {4, 5}, {7, 10}, {3, 5}, {1, 2}, {2, 5}, {3, 10}, {1, 5},
        {1, 10}, {0, 1}};

    public static void main(String[] args) {
        cannotBeLessened();
        asThingsAreNow();
        chanceNoSuchHouse();
        chanceOfBoth();
        streetJustSoMany();
        streetNoSuchNumber();
        meanOfAll();
        paysInTheMean();
        tellsByARow();
        tellsBehindTheLast();
        tellsCannotBe();
        tellsNoSuchRow();
        herdFirstPlace();
        herdNone();
        herdNoSuchRow();
        whomOfAlikeOnes();
        whomNotSoMany();
        whomNoSuchNumber();
        worthMayBeBelowNought();
        worthWithALeaflet();
        worthNoSuchHouse();
        fewestAtMost();
        fewestNoSuchTenths();
        swapLeastAndLess();
        swapOfAlikeOnes();
        swapNone();
        hourAheadOfNone();
        hourPutsRight();
        hourWiseOnesKnow();
        hourNoSuchPlace();
        bestHourOfAlikeOnes();
        twoMoreThanBoth();
        betterLess();
        restsSets();
        restsNoneWithALeaflet();
        restsNotSoMany();
        fenceBothAreThere();
        fenceRounds();
        fenceNoNightYet();
        yearFromNowOn();
        yearNoSuchOnes();
        noHousesAtAll();
        nothingIsDone();
        toldAtMost();
        toldNoSuchOnes();
        forgotten();
        fitsByEachHabit();
        fitsKnown();
        fitsNoSuchOnes();
        noneAheadOfMinusTwo();
        Check.finish("WouldBeEdgesTest");
    }

    private static void chance(WhichBin x, int house, int above, int below) {
        Check.fraction("chance(" + house + ")", x.chance(house, false), x.chance(house, true), above, below);
    }

    private static void street(WhichBin x, int n, int above, int below) {
        Check.fraction("street(" + n + ")", x.street(n, false), x.street(n, true), above, below);
    }

    private static void mean(WhichBin x, int above, int below) {
        Check.fraction("mean", x.mean(false), x.mean(true), above, below);
    }

    private static void pays(WhichBin x, int above, int below) {
        Check.fraction("pays", x.pays(false), x.pays(true), above, below);
    }

    private static void tells(WhichBin x, int row, int above, int below) {
        Check.fraction("tells(" + row + ")", x.tells(row, false), x.tells(row, true), above, below);
    }

    private static void worth(WhichBin x, int house, int above, int below) {
        Check.fraction("worth(" + house + ")", x.worth(house, false), x.worth(house, true), above, below);
    }

    private static void hour(WhichBin x, int place, int above, int below) {
        Check.fraction("hour(" + place + ")", x.hour(place, false), x.hour(place, true), above, below);
    }

    /** Houses a, b .. of such SURE, each by its own sign. */
    private static String owns(int... sure) {
        StringBuilder text = new StringBuilder();
        for (int house = 0; house < sure.length; house++) {
            text.append("house ").append((char) ('a' + house)).append(' ').append(sure[house]).append(" 0 own;");
        }
        return text.toString();
    }

    private static void cannotBeLessened() {
        Check.sentence("fractions cannot be lessened (0 by 1)");
        for (int sure = 0; sure <= 10; sure++) {
            WhichBin x = Check.with(owns(sure, 10, sure, 0, sure, sure) + "brown 3;");
            int above = WRONG_BY_SURE[sure][0];
            int below = WRONG_BY_SURE[sure][1];
            chance(x, 0, above, below);
            chance(x, 1, 0, 1);
            chance(x, 3, 1, 1);
            chance(x, 5, above, below);
        }
        // 82 of 10000000
        WhichBin x = Check.with(owns(9, 9, 9, 9, 9) + "house f 9 6 = if 4 < blues then sign else 1 - sign;brown 1;");
        street(x, 6, 41, 5000000);
        x = Check.with(owns(9, 9, 9, 9, 9, 9));
        street(x, 6, 1, 1000000);
        street(x, 1, 177147, 500000);
        mean(x, 3, 5);
    }

    private static void asThingsAreNow() {
        Check.sentence("What would be, as things are now");
        WhichBin x = Check.with(owns(6) + "house b 5 1 most;house c 5 6 two;fine 10;both 5;");
        mean(x, 4, 5);
        pays(x, 13, 1);
        x.leaflet(0, true);
        mean(x, 0, 1);
        pays(x, 5, 1);
        x.leaflet(0, false);
        mean(x, 4, 5);
        x.swap(0, 1);
        mean(x, 9, 10);
        x.habit(2, 0);
        mean(x, 7, 5);
        street(x, 3, 1, 10);
        x.hold(0);
        x.undo();
        x.undo();
        mean(x, 4, 5);
        street(x, 3, 0, 1);
        x.nights(7);
        mean(x, 4, 5);
        x.restore(0);
        mean(x, 7, 5);
        Check.due("a text with a FAULT", Check.read(x, "brown 11;"), 5);
        mean(x, 7, 5);
        Check.due("read", Check.read(x, owns(8)), 0);
        mean(x, 1, 5);
    }

    private static void chanceNoSuchHouse() {
        Check.sentence("promise 14: NONE: no such HOUSE");
        WhichBin x = Check.with(owns(6, 7, 8));
        int[] others = {-1, 3, 5, 6, MAX, MIN};
        for (int house : others) {
            chance(x, house, NONE, NONE);
        }
        chance(x, 2, 1, 5);
    }

    private static void chanceOfBoth() {
        Check.sentence("CHANCE of a HOUSE: how likely it is WRONG (it put out one bin)");
        WhichBin x = Check.with("house a 0 0 two;house b 0 0 own;house c 10 0 own;house d 3 0 = 1;house e 3 0 = 0;brown 3;");
        chance(x, 0, 0, 1);
        chance(x, 1, 1, 1);
        chance(x, 2, 0, 1);
        chance(x, 3, 7, 10);
        chance(x, 4, 3, 10);
        x.leaflet(1, true);
        chance(x, 1, 0, 1);
    }

    private static void streetJustSoMany() {
        Check.sentence("STREET: how likely just so many are");
        for (int houses = 0; houses <= 6; houses++) {
            WhichBin x = Check.with(owns(new int[houses]));
            for (int n = 0; n <= 6; n++) {
                street(x, n, n == houses ? 1 : 0, 1);
            }
        }
        WhichBin x = Check.with(owns(10, 10, 10, 10, 10, 10));
        street(x, 0, 1, 1);
        street(x, 6, 0, 1);
        x = Check.with(owns(5, 5) + "house c 5 0 two;");
        street(x, 0, 1, 4);
        street(x, 1, 1, 2);
        street(x, 2, 1, 4);
        street(x, 3, 0, 1);
    }

    private static void streetNoSuchNumber() {
        Check.sentence("promise 15: STREET (n 0 .. 6); NONE: no such n");
        WhichBin x = Check.with(owns(6, 7));
        int[] others = {-1, -2, 7, 8, MAX, MIN};
        for (int n : others) {
            street(x, n, NONE, NONE);
        }
        street(x, 3, 0, 1);
        street(x, 6, 0, 1);
        street(x, 0, 21, 50);
    }

    private static void meanOfAll() {
        Check.sentence("MEAN: CHANCES of all together");
        mean(Check.with(owns(0, 0, 0, 0, 0, 0)), 6, 1);
        mean(Check.with(owns(10, 10, 10, 10, 10, 10)), 0, 1);
        mean(Check.with(owns(9, 8)), 3, 10);
        mean(Check.with(owns(5, 5)), 1, 1);
        mean(Check.with(""), 0, 1);
        WhichBin x = Check.with(owns(0, 0, 0, 0, 0, 0));
        for (int house = 0; house < 6; house++) {
            x.leaflet(house, true);
            mean(x, 5 - house, 1);
        }
    }

    private static void paysInTheMean() {
        Check.sentence("PAYS: what all pay in a NIGHT, in the mean (no LEAFLETS)");
        String twos = owns(0, 0, 0, 0, 0, 0).replace("own", "two");
        pays(Check.with(owns(0, 0, 0, 0, 0, 0) + "fine 30;both 0;"), 180, 1);
        pays(Check.with(owns(0, 0, 0, 0, 0, 0) + "fine 0;both 30;"), 0, 1);
        pays(Check.with(twos + "fine 30;both 0;"), 0, 1);
        pays(Check.with(twos + "fine 0;both 30;"), 180, 1);
        pays(Check.with(owns(7) + "house b 7 0 two;fine 3;both 2;"), 29, 10);
        WhichBin x = Check.with(owns(7, 0) + "fine 3;leaflet 999;");
        x.leaflet(1, true);
        pays(x, 9, 10);
    }

    private static void tellsByARow() {
        Check.sentence("TELLS: one who comes late sees all bins, PLACE by PLACE: how likely it is brown then");
        WhichBin x = Check.with(owns(9, 6));
        tells(x, Check.row(1, 1), 27, 29);
        tells(x, Check.row(1, 0), 6, 7);
        tells(x, Check.row(0, 1), 1, 7);
        tells(x, Check.row(0, 0), 2, 29);
        x.swap(0, 1);
        tells(x, Check.row(1, 0), 1, 7);
        x = Check.with(owns(10));
        tells(x, 1, 1, 1);
        tells(x, 0, 0, 1);
        x = Check.with(owns(5) + "brown 0;");
        tells(x, 1, 0, 1);
        x = Check.with(owns(5) + "brown 10;");
        tells(x, 0, 1, 1);
    }

    private static void tellsBehindTheLast() {
        Check.sentence("promise 18: (PLACES behind the last HOUSE are not looked at)");
        WhichBin x = null;
        for (int row = 0; row <= 728; row++) {
            if (row % 200 == 0) {
                x = Check.with(owns(9));
            }
            switch (row % 3) {
                case 0:
                    tells(x, row, 1, 10);
                    break;
                case 1:
                    tells(x, row, 9, 10);
                    break;
                default:
                    tells(x, row, -2, -2);
                    break;
            }
        }
        x = Check.with("house a 9 0 two;brown 3;");
        tells(x, 728, 3, 10);
        tells(x, 2, 3, 10);
        x = Check.with("brown 0;");
        tells(x, 0, 0, 1);
        tells(x, 728, 0, 1);
    }

    private static void tellsCannotBe() {
        Check.sentence("promise 18: -2: it cannot be");
        WhichBin x = Check.with(owns(10, 10));
        tells(x, Check.row(0, 1), -2, -2);
        tells(x, Check.row(1, 0), -2, -2);
        tells(x, Check.row(1, 1), 1, 1);
        tells(x, Check.row(2, 1), -2, -2);
        x = Check.with(owns(10) + "brown 10;");
        tells(x, 0, -2, -2);
        tells(x, 1, 1, 1);
        x = Check.with(owns(9, 9, 9, 9, 9, 9));
        tells(x, 0, 1, 531442);
        tells(x, 728, -2, -2);
    }

    private static void tellsNoSuchRow() {
        Check.sentence("promise 18: NONE: no such row");
        int[] others = {-1, -2, 729, 730, MAX, MIN};
        for (int row : others) {
            tells(Check.with(owns(10, 10)), row, NONE, NONE);
            tells(Check.with(""), row, NONE, NONE);
        }
    }

    private static void herdFirstPlace() {
        Check.sentence("HERD: the first PLACE from which on each HOUSE would put out the same bins with either sign");
        WhichBin x = Check.with("house a 5 0 two;house b 5 0 two;house c 5 0 two;house d 5 0 two;house e 5 0 two;"
                + "house f 5 0 two;");
        Check.due("herd", x.herd(0), 0);
        Check.due("herd", x.herd(728), 0);
        for (int house = 0; house < 5; house++) {
            x.habit(house, 0);
            Check.due("herd", x.herd(364), house + 1);
        }
        x.habit(0, 5);
        // d and f alone do not go by their signs
        x.habit(3, 5);
        Check.due("herd", x.herd(364), 5);
        x.swap(0, 5);
        Check.due("herd", x.herd(0), 5);
        x = Check.with("house a 5 0 own;house b 5 1 most;house c 5 2 most;house d 5 3 most;");
        Check.due("herd", x.herd(Check.row(1, 1, 1)), 1);
        Check.due("herd", x.herd(Check.row(1, 0, 1)), 3);
        Check.due("herd", x.herd(Check.row(1, 2, 2)), 1);
        Check.due("herd", x.herd(Check.row(2, 1, 1)), 2);
        // what is at a HOUSE's own PLACE and behind is not ahead of it
        Check.due("herd", x.herd(Check.row(1, 1, 1, 0, 0, 0)), 1);
        Check.due("herd", x.herd(Check.row(1, 1, 1, 2, 2, 2)), 1);
    }

    private static void herdNone() {
        Check.sentence("promise 19: -2: there is none (no HOUSES, too)");
        Check.due("herd", Check.with(owns(5, 5)).herd(0), -2);
        Check.due("herd", Check.with("house a 5 0 two;house b 5 0 own;").herd(0), -2);
        Check.due("herd", Check.with("").herd(0), -2);
        Check.due("herd", Check.with("").herd(728), -2);
        WhichBin x = Check.with("house a 5 0 two;");
        x.leaflet(0, true);
        Check.due("herd with a LEAFLET", x.herd(0), -2);
    }

    private static void herdNoSuchRow() {
        Check.sentence("promise 19: NONE: no such row");
        int[] others = {-1, -2, 729, 730, MAX, MIN};
        for (int row : others) {
            Check.due("herd", Check.with("house a 5 0 two;").herd(row), NONE);
            Check.due("herd", Check.with("").herd(row), NONE);
        }
        Check.due("herd", Check.with("house a 5 0 two;").herd(728), 0);
    }

    private static void whomOfAlikeOnes() {
        Check.sentence("WHOM: the HOUSES without one by which MEAN is least; of alike ones the least bits");
        WhichBin x = Check.with(owns(7, 7, 7, 7, 7, 7));
        for (int n = 0; n <= 6; n++) {
            Check.due("whom(" + n + ")", x.whom(n), (1 << n) - 1);
        }
        x = Check.with(owns(9, 8, 8, 7, 7, 8));
        int[] due = {0, 8, 24, 26, 30, 62, 63};
        for (int n = 0; n <= 6; n++) {
            Check.due("whom(" + n + ")", x.whom(n), due[n]);
        }
        x.leaflet(3, true);
        Check.due("whom(1)", x.whom(1), 16);
        Check.due("whom(2)", x.whom(2), 18);
        Check.due("whom(5)", x.whom(5), 55);
        // by none MEAN is less: the least bits all the same, and none worse than another
        x = Check.with(owns(10, 10, 10));
        Check.due("whom(1)", x.whom(1), 1);
        Check.due("whom(2)", x.whom(2), 3);
    }

    private static void whomNotSoMany() {
        Check.sentence("promise 20: -2: not so many without one");
        WhichBin x = Check.with(owns(7, 7, 7));
        Check.due("whom(3)", x.whom(3), 7);
        Check.due("whom(4)", x.whom(4), -2);
        Check.due("whom(6)", x.whom(6), -2);
        x.leaflet(1, true);
        Check.due("whom(2)", x.whom(2), 5);
        Check.due("whom(3)", x.whom(3), -2);
        x.leaflet(0, true);
        x.leaflet(2, true);
        Check.due("whom(0)", x.whom(0), 0);
        Check.due("whom(1)", x.whom(1), -2);
        x = Check.with("");
        Check.due("whom(0)", x.whom(0), 0);
        Check.due("whom(1)", x.whom(1), -2);
    }

    private static void whomNoSuchNumber() {
        Check.sentence("promise 20: NONE: no such n");
        WhichBin x = Check.with(owns(7, 7, 7, 7, 7, 7));
        int[] others = {-1, -2, 7, 8, MAX, MIN};
        for (int n : others) {
            Check.due("whom(" + n + ")", x.whom(n), NONE);
            Check.due("whom(" + n + ")", new WhichBin().whom(n), NONE);
        }
        Check.due("whom(6)", x.whom(6), 63);
    }

    private static void worthMayBeBelowNought() {
        Check.sentence("promise 21: It may be below 0 (above the line).");
        WhichBin x = Check.with("house a 6 0 own;house b 9 6 = 1 - lead * 2;house c 9 6 = 1 - lead * 2;brown 10;");
        worth(x, 0, -2, 5);
        x = Check.with("house a 6 0 own;house b 9 6 = 1 - lead * 2;brown 10;");
        worth(x, 0, 0, 1);
        x = Check.with("house a 0 0 own;house b 9 6 = 1 - lead * 2;house c 9 6 = 1 - lead * 2;brown 10;");
        worth(x, 0, -1, 1);
        // to one that puts out both it is worth nothing
        worth(Check.with("house a 6 0 two;"), 0, 0, 1);
        worth(Check.with(owns(0)), 0, 1, 1);
        worth(Check.with(owns(10)), 0, 0, 1);
    }

    private static void worthWithALeaflet() {
        Check.sentence("promise 21: 0 by 1 with a LEAFLET");
        WhichBin x = Check.with(owns(6, 7));
        x.leaflet(0, true);
        worth(x, 0, 0, 1);
        worth(x, 1, 3, 10);
        x.leaflet(0, false);
        worth(x, 0, 2, 5);
    }

    private static void worthNoSuchHouse() {
        Check.sentence("promise 21: NONE: no such HOUSE");
        WhichBin x = Check.with(owns(6, 7));
        int[] others = {-1, 2, 6, 31, 32, 33, MAX, MIN};
        for (int house : others) {
            worth(x, house, NONE, NONE);
        }
    }

    private static void fewestAtMost() {
        Check.sentence("FEWEST: LEAFLETS more, so that MEAN is at most so many tenths");
        WhichBin x = Check.with(owns(0, 0, 0, 0, 0, 0));
        for (int tenths = 0; tenths <= 60; tenths++) {
            Check.due("fewest(" + tenths + ")", x.fewest(tenths), 6 - tenths / 10);
        }
        x = Check.with(owns(9, 6, 8));
        int[] due = {3, 2, 2, 1, 1, 1, 1, 0, 0};
        for (int tenths = 0; tenths < due.length; tenths++) {
            Check.due("fewest(" + tenths + ")", x.fewest(tenths), due[tenths]);
        }
        x.leaflet(1, true);
        Check.due("fewest(3)", x.fewest(3), 0);
        Check.due("fewest(2)", x.fewest(2), 1);
        Check.due("fewest(0)", x.fewest(0), 2);
        Check.due("fewest(0) where all are sure", Check.with(owns(10, 10)).fewest(0), 0);
        // one who is heard of by all is enough
        x = Check.with("house a 6 0 own;house b 6 0 first;house c 6 0 first;house d 6 0 first;");
        Check.due("fewest(0)", x.fewest(0), 1);
        // the other colour than its sign's: six tenths in all
        x = Check.with("house a 9 0 own;house b 5 0 = if sign < 1 then sure else sure * 0;house c 10 0 own;");
        Check.due("fewest(10)", x.fewest(10), 0);
        Check.due("fewest(6)", x.fewest(6), 0);
        Check.due("fewest(5)", x.fewest(5), 1);
        // 57 of 250 are more than two tenths and less than three
        x = Check.with("house a 9 0 own;house b 9 0 own;house c 9 2 most;");
        mean(x, 57, 250);
        Check.due("fewest(3)", x.fewest(3), 0);
        Check.due("fewest(2)", x.fewest(2), 1);
    }

    private static void fewestNoSuchTenths() {
        Check.sentence("promise 22: FEWEST (tenths 0 .. 60); NONE: no such ones");
        WhichBin x = Check.with(owns(0, 0));
        int[] others = {-1, -2, 61, 62, MAX, MIN};
        for (int tenths : others) {
            Check.due("fewest(" + tenths + ")", x.fewest(tenths), NONE);
            Check.due("fewest(" + tenths + ")", new WhichBin().fewest(tenths), NONE);
        }
        Check.due("fewest(60)", x.fewest(60), 0);
        Check.due("fewest(0)", x.fewest(0), 2);
    }

    private static void swapLeastAndLess() {
        Check.sentence("SWAP: two HOUSES that change PLACES, so that MEAN is least, and less than now; 10 * the lesser number +"
                + " the other one");
        // all follow the first: the surest of them ought to be it
        String firsts = owns(6, 7, 9, 8, 7, 7).replace("own", "first");
        WhichBin x = Check.with(firsts);
        Check.due("bestSwap", x.bestSwap(), 2);
        x.swap(0, 2);
        Check.due("bestSwap", x.bestSwap(), -2);
        // HOUSE 5 is at PLACE 0, HOUSE 4 the surest
        x = Check.with(owns(7, 7, 7, 7, 9, 6).replace("own", "first"));
        x.swap(0, 5);
        Check.due("bestSwap", x.bestSwap(), 45);
        x.swap(4, 5);
        Check.due("bestSwap", x.bestSwap(), -2);
        x = Check.with("house a 6 1 most;house b 9 0 own;");
        Check.due("bestSwap", x.bestSwap(), 1);
    }

    private static void swapOfAlikeOnes() {
        Check.sentence("SWAP: of alike ones the first by the lesser number, then the other one");
        WhichBin x = Check.with(owns(6, 9, 9, 9).replace("own", "first"));
        Check.due("bestSwap", x.bestSwap(), 1);
        x.swap(0, 3);
        Check.due("bestSwap", x.bestSwap(), -2);
        x = Check.with(owns(9, 9, 6, 9).replace("own", "first"));
        x.swap(0, 2);
        Check.due("bestSwap", x.bestSwap(), 2);
        x = Check.with(owns(6, 9, 9, 6).replace("own", "first"));
        x.swap(0, 3);
        Check.due("bestSwap", x.bestSwap(), 13);
    }

    private static void swapNone() {
        Check.sentence("promise 23: -2: none");
        Check.due("bestSwap", Check.with(owns(6, 7, 8)).bestSwap(), -2);
        Check.due("bestSwap", Check.with(owns(6)).bestSwap(), -2);
        Check.due("bestSwap", Check.with("").bestSwap(), -2);
        Check.due("bestSwap", Check.with(owns(7, 7).replace("own", "first")).bestSwap(), -2);
    }

    private static void hourAheadOfNone() {
        Check.sentence("HOUR (behind the last one: ahead of none)");
        WhichBin x = Check.with(owns(6, 7, 8));
        hour(x, 0, 9, 10);
        hour(x, 1, 1, 2);
        hour(x, 2, 1, 5);
        hour(x, 3, 0, 1);
        mean(x, 9, 10);
        // by PLACES, not by numbers
        x.swap(0, 2);
        hour(x, 1, 7, 10);
        hour(x, 2, 2, 5);
        hour(Check.with(""), 0, 0, 1);
    }

    private static void hourPutsRight() {
        Check.sentence("HOUR: each HOUSE ahead has one, of the NIGHT's colour, then; those behind see them so");
        WhichBin x = Check.with("house a 5 0 two;house b 6 0 own;house c 6 6 most;");
        hour(x, 0, 4, 5);
        hour(x, 1, 14, 25);
        hour(x, 2, 0, 1);
        x = Check.with("house a 6 0 own;house b 0 0 first;house c 0 0 as a;house d 0 0 = lead;");
        hour(x, 0, 8, 5);
        hour(x, 1, 0, 1);
        hour(x, 4, 0, 1);
        x = Check.with("house a 5 0 two;house b 0 0 first;house c 0 0 as a;house d 0 0 = lead;brown 10;");
        hour(x, 0, 3, 1);
        hour(x, 1, 0, 1);
        x = Check.with("house a 0 0 own;house b 5 1 = 1 - browns;house c 5 1 = browns;brown 10;");
        // a blue, b brown, c brown; then a brown, b blue, c blue
        hour(x, 0, 1, 1);
        hour(x, 1, 2, 1);
        hour(x, 2, 0, 1);
    }

    private static void hourWiseOnesKnow() {
        Check.sentence("HOUR: 'wise' ones know it");
        WhichBin x = Check.with("house a 1 0 own;house b 9 6 wise;house c 9 1 wise;house d 9 0 wise;");
        // a is wrong as often as b is right, so that b goes by its own sign; but when a is put right, b knows that, and c
        // that b does; d sees none
        hour(x, 0, 6, 5);
        hour(x, 1, 1, 10);
        hour(x, 2, 1, 10);
        hour(x, 3, 1, 10);
        hour(x, 4, 0, 1);
        Check.puts(x, 1, 1, 1, 0);
    }

    private static void hourNoSuchPlace() {
        Check.sentence("promise 24: the PLACE 0 to how many HOUSES there are; NONE: no such one");
        WhichBin x = Check.with(owns(6, 7, 8));
        int[] others = {-1, -2, 4, 5, 6, 7, MAX, MIN};
        for (int place : others) {
            hour(x, place, NONE, NONE);
        }
        hour(x, 3, 0, 1);
        hour(Check.with(""), 1, NONE, NONE);
        hour(Check.with(owns(5, 5, 5, 5, 5, 5)), 6, 0, 1);
        hour(Check.with(owns(5, 5, 5, 5, 5, 5)), 7, NONE, NONE);
    }

    private static void bestHourOfAlikeOnes() {
        Check.sentence("BEST HOUR: the PLACE (0 to how many there are) by which MEAN of all is least; of alike ones the first");
        Check.due("bestHour", Check.with("").bestHour(), 0);
        Check.due("bestHour", Check.with(owns(10, 10, 10)).bestHour(), 0);
        Check.due("bestHour", Check.with(owns(9)).bestHour(), 1);
        Check.due("bestHour", Check.with(owns(9, 10, 10)).bestHour(), 1);
        Check.due("bestHour", Check.with(owns(10, 10, 9)).bestHour(), 3);
        Check.due("bestHour", Check.with(owns(9, 9, 9, 9, 9, 9)).bestHour(), 6);
        Check.due("bestHour", Check.with("house a 6 0 own;house b 0 0 first;house c 0 0 as a;").bestHour(), 1);
        Check.due("bestHour", Check.with("house a 5 0 two;house b 6 0 own;house c 6 6 most;").bestHour(), 2);
    }

    private static void twoMoreThanBoth() {
        Check.sentence("TWO: HOUSES whose CHANCE times FINE is more than BOTH");
        for (int sure = 0; sure <= 10; sure++) {
            Check.due("two, 10 and 5", Check.with(owns(sure)).two(), sure < 5 ? 1 : 0);
            Check.due("two, 30 and 30", Check.with(owns(sure) + "fine 30;both 30;").two(), 0);
            Check.due("two, 30 and 29", Check.with(owns(sure) + "fine 30;both 29;").two(), sure < 1 ? 1 : 0);
            Check.due("two, 1 and 0", Check.with(owns(sure) + "fine 1;both 0;").two(), sure < 10 ? 1 : 0);
            Check.due("two, 0 and 0", Check.with(owns(sure) + "fine 0;both 0;").two(), 0);
        }
        Check.due("two", Check.with(owns(4, 5, 6, 3, 5, 0)).two(), 1 + 8 + 32);
        Check.due("two of one that does", Check.with("house a 0 0 two;fine 30;both 0;").two(), 0);
        WhichBin x = Check.with(owns(0, 0));
        x.leaflet(0, true);
        Check.due("two with a LEAFLET", x.two(), 2);
        Check.due("two", Check.with("").two(), 0);
    }

    private static void betterLess() {
        Check.sentence("BETTER: HOUSES whose CHANCE would be less if they alone went by 'own'");
        WhichBin x = Check.with("house a 7 0 own;house b 8 0 first;house c 7 0 first;house d 6 0 first;house e 10 0 first;");
        Check.due("better", x.better(), 2 + 16);
        x.leaflet(0, true);
        Check.due("better where the first is sure", x.better(), 0);
        x.leaflet(0, false);
        x.leaflet(4, true);
        Check.due("better with a LEAFLET", x.better(), 2);
        Check.due("better", Check.with(owns(0, 0)).better(), 0);
        Check.due("better of one that puts out both", Check.with("house a 10 0 two;").better(), 0);
        Check.due("better", Check.with("").better(), 0);
        x = Check.with("house a 6 0 = 1 - sign;house b 5 0 = 1 - sign;house c 4 0 = 1 - sign;");
        Check.due("better", x.better(), 1);
    }

    private static void restsSets() {
        Check.sentence("RESTS: sets of HOUSES that go by 'own' instead of their HABIT, so that nobody by itself, doing the"
                + " other thing, had less CHANCE; the least first");
        WhichBin x = Check.with("house a 7 0 own;house b 8 0 first;");
        Check.due("rests", x.rests(NONE), 2);
        Check.due("rests(0)", x.rests(0), 2);
        Check.due("rests(1)", x.rests(1), 3);
        // alike: both things
        x = Check.with("house a 7 0 own;house b 7 0 first;");
        Check.due("rests", x.rests(NONE), 4);
        for (int i = 0; i < 4; i++) {
            Check.due("rests(" + i + ")", x.rests(i), i);
        }
        x = Check.with(owns(5, 5, 5, 5, 5, 5));
        Check.due("rests", x.rests(NONE), 64);
        for (int i = 0; i < 64; i++) {
            Check.due("rests(" + i + ")", x.rests(i), i);
        }
        Check.due("rests(64)", x.rests(64), NONE);
        x = Check.with("house a 9 0 two;house b 10 0 two;house c 0 0 = sign;");
        Check.due("rests", x.rests(NONE), 4);
        Check.due("rests(0)", x.rests(0), 0);
        Check.due("rests(1)", x.rests(1), 2);
        Check.due("rests(2)", x.rests(2), 4);
        Check.due("rests(3)", x.rests(3), 6);
    }

    private static void restsNoneWithALeaflet() {
        Check.sentence("RESTS: sets of HOUSES (none with a LEAFLET)");
        WhichBin x = Check.with(owns(5, 5, 5));
        x.leaflet(1, true);
        Check.due("rests", x.rests(NONE), 4);
        int[] due = {0, 1, 4, 5};
        for (int i = 0; i < 4; i++) {
            Check.due("rests(" + i + ")", x.rests(i), due[i]);
        }
        x.leaflet(0, true);
        x.leaflet(2, true);
        Check.due("rests", x.rests(NONE), 1);
        Check.due("rests(0)", x.rests(0), 0);
        Check.due("rests(1)", x.rests(1), NONE);
    }

    private static void restsNotSoMany() {
        Check.sentence("promise 28: NONE: not so many, i below NONE");
        WhichBin x = Check.with("house a 7 0 own;house b 8 0 first;");
        int[] others = {2, 3, 64, MAX, -2, -3, MIN};
        for (int i : others) {
            Check.due("rests(" + i + ")", x.rests(i), NONE);
        }
        Check.due("rests", Check.with("").rests(NONE), 1);
        Check.due("rests(0)", Check.with("").rests(0), 0);
        Check.due("rests(1)", Check.with("").rests(1), NONE);
        Check.due("rests(-2)", Check.with("").rests(-2), NONE);
    }

    /** Brown always, and each bin as told: a street after its first night. */
    private static WhichBin out(int... bins) {
        StringBuilder text = new StringBuilder("brown 10;");
        for (int house = 0; house < bins.length; house++) {
            text.append("house ").append((char) ('a' + house));
            text.append(bins[house] == 0 ? " 0 0 own;" : bins[house] == 1 ? " 10 0 own;" : " 5 0 two;");
        }
        WhichBin x = Check.with(text.toString());
        x.nights(1);
        return x;
    }

    private static void fence(WhichBin x, int rounds, int... bins) {
        Check.due("fence(0)", x.fence(0), rounds);
        Check.due("fence(1)", x.fence(1), Check.row(bins));
    }

    private static void fenceBothAreThere() {
        Check.sentence("FENCE: both are there and put out the same one bin: that one; else as they have it");
        fence(out(), 0);
        fence(out(1), 0, 1);
        fence(out(2), 0, 2);
        fence(out(0, 1), 0, 0, 1);
        fence(out(1, 0, 1), 1, 1, 1, 1);
        fence(out(0, 1, 0), 1, 0, 0, 0);
        fence(out(0, 2, 0), 1, 0, 0, 0);
        fence(out(1, 2, 1), 1, 1, 1, 1);
        fence(out(2, 1, 2), 0, 2, 1, 2);
        fence(out(2, 0, 2), 0, 2, 0, 2);
        fence(out(1, 0, 2), 0, 1, 0, 2);
        fence(out(1, 2, 0), 0, 1, 2, 0);
        // those at the ends have nobody on one side
        fence(out(0, 1, 1, 1, 0), 0, 0, 1, 1, 1, 0);
        fence(out(2, 2, 2, 2, 2, 2), 0, 2, 2, 2, 2, 2, 2);
        // by the PLACES as they are now, and as the bins are: what would be out now is not asked
        WhichBin x = out(1, 0, 1);
        x.habit(1, 5);
        fence(x, 1, 1, 1, 1);
        x.swap(0, 1);
        fence(x, 0, 0, 1, 1);
        x.undo();
        fence(x, 1, 1, 1, 1);
    }

    private static void fenceRounds() {
        Check.sentence("FENCE: round by round all HOUSES at once; how many rounds that changed something");
        fence(out(1, 0, 1, 0), 1, 1, 1, 0, 0);
        fence(out(1, 0, 1, 0, 1), 2, 1, 1, 1, 1, 1);
        fence(out(1, 0, 1, 0, 1, 0), 2, 1, 1, 1, 0, 0, 0);
        fence(out(0, 1, 0, 1, 0, 1), 2, 0, 0, 0, 1, 1, 1);
        fence(out(0, 0, 1, 0, 0, 0), 1, 0, 0, 0, 0, 0, 0);
        fence(out(0, 2, 0, 2, 1, 2), 1, 0, 0, 0, 2, 1, 2);
        fence(out(1, 1, 1, 1, 1, 1), 0, 1, 1, 1, 1, 1, 1);
        WhichBin x = out(1, 0, 1, 0, 1, 0);
        fence(x, 2, 1, 1, 1, 0, 0, 0);
        fence(x, 2, 1, 1, 1, 0, 0, 0);
        Check.due("the bin that is out", x.house(1, 4), 0);
    }

    private static void fenceNoNightYet() {
        Check.sentence("promise 29: -2: no NIGHT yet; NONE for others");
        WhichBin x = Check.with(owns(10, 0, 10) + "brown 10;");
        int[] others = {-1, -2, 2, 3, MAX, MIN};
        for (int round = 0; round < 2; round++) {
            Check.due("fence(0)", x.fence(0), -2);
            Check.due("fence(1)", x.fence(1), -2);
            for (int what : others) {
                Check.due("fence(" + what + ")", x.fence(what), NONE);
            }
            x.nights(1);
            for (int what : others) {
                Check.due("fence(" + what + ")", x.fence(what), NONE);
            }
            fence(x, 1, 1, 1, 1);
            x.undo();
        }
    }

    private static void yearFromNowOn() {
        Check.sentence("YEAR by s SEEDS from the text's SEED on: how many are WRONG in n NIGHTS from now on, in all of them"
                + " together");
        // of SEED 5000: LOTS of HOUSE 0 are 4 7 8 9 8 9 8 1, night by night
        WhichBin x = Check.with(owns(5) + "seed 5000;");
        int[] wrongs = {0, 1, 2, 3, 4, 5, 6, 6};
        for (int n = 1; n <= 8; n++) {
            Check.due("year(" + n + ", 1)", x.year(n, 1), wrongs[n - 1]);
        }
        x.nights(7);
        Check.due("year(1, 1) then", x.year(1, 1), 0);
        x.undo();
        // of SEED 9999 then 10000, 10001 ..: 8 and 0 for the first NIGHT of HOUSE 0
        x = Check.with(owns(8) + "seed 9999;");
        Check.due("year(1, 1)", x.year(1, 1), 1);
        Check.due("year(1, 2)", x.year(1, 2), 1);
        // by another program; SEEDS go on behind 9999, the last that can be told
        int[] firstNights = {2, 4, 6, 7, 7, 9, 10, 11, 12, 13};
        int[] nextNights = {1, 3, 5, 7, 10, 12, 14, 14, 15, 16};
        x = Check.with(owns(5) + "seed 9999;");
        for (int s = 1; s <= 10; s++) {
            Check.due("year(3, " + s + ")", x.year(3, s), firstNights[s - 1]);
        }
        x.nights(3);
        for (int s = 1; s <= 10; s++) {
            Check.due("year(3, " + s + ") then", x.year(3, s), nextNights[s - 1]);
        }
        x = Check.with(owns(0, 0, 0, 0, 0, 0));
        Check.due("year(50, 10)", x.year(50, 10), 3000);
        Check.due("year(1, 1)", x.year(1, 1), 6);
        x.nights(50);
        Check.due("year(50, 10)", x.year(50, 10), 3000);
        Check.due("WRONG so far", x.count(4), 300);
        Check.due("year(50, 10)", Check.with(owns(10, 10) + "seed 9999;").year(50, 10), 0);
        Check.due("year of both", Check.with("house a 0 0 two;").year(50, 10), 0);
    }

    private static void yearNoSuchOnes() {
        Check.sentence("promise 30: NONE: no such ones (SEEDS 1 .. 10, NIGHTS 1 .. 50)");
        WhichBin x = Check.with(owns(0));
        int[] wrongNights = {0, -1, 51, 52, MAX, MIN};
        for (int n : wrongNights) {
            Check.due("year(" + n + ", 1)", x.year(n, 1), NONE);
            Check.due("year(" + n + ", 10)", x.year(n, 10), NONE);
        }
        int[] wrongSeeds = {0, -1, 11, 12, MAX, MIN};
        for (int s : wrongSeeds) {
            Check.due("year(1, " + s + ")", x.year(1, s), NONE);
            Check.due("year(50, " + s + ")", x.year(50, s), NONE);
            Check.due("year(0, " + s + ")", x.year(0, s), NONE);
        }
        Check.due("year(50, 10)", x.year(50, 10), 500);
        Check.due("year(1, 10)", x.year(1, 10), 10);
        Check.due("year(50, 1)", x.year(50, 1), 50);
    }

    private static void noHousesAtAll() {
        Check.sentence("HOUSES, 6 at most: none at all too");
        WhichBin x = Check.with("brown 10;");
        mean(x, 0, 1);
        pays(x, 0, 1);
        street(x, 0, 1, 1);
        street(x, 1, 0, 1);
        tells(x, 0, 1, 1);
        Check.due("fewest(0)", x.fewest(0), 0);
        Check.due("year", x.year(1, 1), 0);
        Check.due("better", x.better(), 0);
        Check.due("nights", x.nights(50), 50);
        Check.due("night(0)", x.night(0), 1);
        Check.due("night(1)", x.night(1), 0);
        Check.due("night(2)", x.night(2), 0);
        Check.due("fence(0)", x.fence(0), 0);
        Check.due("fence(1)", x.fence(1), 0);
        Check.due("undo", x.undo(), true);
    }

    private static void nothingIsDone() {
        Check.sentence("What would be: nothing of it happens");
        WhichBin x = Check.with("house a 6 0 own;house b 7 6 wise;house c 5 6 most;seed 3;");
        x.nights(2);
        x.leaflet(2, true);
        int[] before = new int[13];
        for (int what = 0; what <= 12; what++) {
            before[what] = x.count(what);
        }
        int bin = x.house(1, 4);
        for (int kind = 0; kind < 16; kind++) {
            wouldBe(x, kind);
            Check.sentenceAlso("after kind " + kind);
            chance(x, 1, 3, 10);
            wouldBe(x, kind);
            tells(x, Check.row(1, 0, 1), 1, 1);
            wouldBe(x, kind);
            Check.puts(x, 1, 1, 1, 0);
            wouldBe(x, kind);
            mean(x, 7, 10);
            for (int what = 0; what <= 12; what++) {
                Check.due("count(" + what + ")", x.count(what), before[what]);
            }
            Check.due("its bin", x.house(1, 4), bin);
            Check.due("its PLACE", x.house(1, 0), 1);
            Check.due("its HABIT", x.house(1, 2), 4);
        }
    }

    private static void wouldBe(WhichBin x, int kind) {
        switch (kind) {
            case 0:
                x.whom(1);
                break;
            case 1:
                x.fewest(0);
                break;
            case 2:
                x.bestSwap();
                break;
            case 3:
                x.bestHour();
                break;
            case 4:
                x.rests(NONE);
                break;
            case 5:
                x.better();
                break;
            case 6:
                x.year(50, 10);
                break;
            case 7:
                x.fence(1);
                break;
            case 8:
                x.hour(2, false);
                break;
            case 9:
                x.worth(1, false);
                break;
            case 10:
                x.worth(0, true);
                break;
            case 11:
                x.street(1, true);
                break;
            case 12:
                x.herd(0);
                break;
            case 13:
                x.two();
                break;
            case 14:
                x.pays(true);
                break;
            default:
                x.puts(2, false, 4);
                break;
        }
    }

    private static void toldAtMost() {
        Check.sentence("TOLD: 20 at most, numbered from 0 on; promise 31: NONE, and nothing happens: 20 are there");
        WhichBin x = Check.with(owns(5, 5));
        for (int i = 0; i < 20; i++) {
            Check.due("tell", x.tell(i % 2, true, 0, 0, true, true), i);
            Check.due("TOLD", x.count(10), i + 1);
        }
        for (int i = 0; i < 3; i++) {
            Check.due("a 21st", x.tell(0, true, 0, 0, true, false), NONE);
            Check.due("TOLD", x.count(10), 20);
            Check.due("fits", x.fits(0, 20), OWN | MOST | FIRST | FEWEST);
        }
        Check.due("things", x.count(9), 0);
        Check.due("forget()", x.forget(), 20);
        Check.due("tell", x.tell(0, true, 0, 0, true, false), 0);
        Check.due("fits", x.fits(0, 1), OTHER);
    }

    private static void toldNoSuchOnes() {
        Check.sentence("promise 31: NONE, and nothing happens: no such ones (browns, blues 0 .. 6)");
        WhichBin x = Check.with(owns(5, 5));
        int[] others = {-1, -2, 7, 8, MAX, MIN};
        for (int n : others) {
            Check.due("browns " + n, x.tell(0, true, n, 0, true, true), NONE);
            Check.due("blues " + n, x.tell(0, true, 0, n, true, true), NONE);
            Check.due("both " + n, x.tell(0, true, n, n, true, true), NONE);
            Check.due("house " + n, x.tell(n, true, 0, 0, true, true), NONE);
        }
        Check.due("house 2", x.tell(2, true, 0, 0, true, true), NONE);
        Check.due("TOLD", x.count(10), 0);
        Check.due("6 and 6", x.tell(1, true, 6, 6, true, true), 0);
        Check.due("6 and 0", x.tell(0, true, 6, 0, true, true), 1);
        Check.due("0 and 6", x.tell(0, true, 0, 6, true, true), 2);
        Check.due("without HOUSES", new WhichBin().tell(0, true, 0, 0, true, true), NONE);
    }

    private static void forgotten() {
        Check.sentence("promise 32: All that was TOLD is forgotten: how many there were.");
        WhichBin x = Check.with(owns(5, 5));
        Check.due("forget()", x.forget(), 0);
        x.tell(0, true, 1, 0, true, false);
        x.tell(1, true, 1, 0, true, false);
        Check.due("forget()", x.forget(), 2);
        Check.due("TOLD", x.count(10), 0);
        Check.due("fits(0, 0)", x.fits(0, 0), 31);
        Check.due("fits(0, 1)", x.fits(0, 1), NONE);
        Check.due("forget()", x.forget(), 0);
        // nights, undo() and SLOTS leave what is TOLD as it is
        x.nights(1);
        x.hold(0);
        x.tell(0, true, 1, 0, true, false);
        x.undo();
        x.restore(0);
        Check.due("TOLD", x.count(10), 1);
        Check.due("fits(0, 1)", x.fits(0, 1), OTHER | FEWEST);
    }

    private static void fits(boolean sign, int browns, int blues, boolean lead, int ifBrown) {
        WhichBin x = Check.with(owns(5, 5));
        x.tell(1, sign, browns, blues, lead, true);
        Check.due("fits, brown", x.fits(1, 1), ifBrown);
        x.tell(0, sign, browns, blues, lead, false);
        Check.due("fits, blue", x.fits(0, 2), 31 - ifBrown);
        x.tell(1, sign, browns, blues, lead, false);
        Check.due("fits, both of them", x.fits(1, 3), 0);
    }

    private static void fitsByEachHabit() {
        Check.sentence("FITS: own, most, first, the other of its own sign, the fewest (of which it sees fewer; as many: its"
                + " sign)");
        fits(true, 0, 0, true, OWN | MOST | FIRST | FEWEST);
        fits(true, 0, 0, false, OWN | MOST | FEWEST);
        fits(false, 0, 0, true, FIRST | OTHER);
        fits(false, 0, 0, false, OTHER);
        fits(true, 6, 6, false, OWN | MOST | FEWEST);
        fits(true, 3, 2, false, OWN | MOST);
        fits(true, 2, 3, false, OWN | FEWEST);
        fits(false, 3, 2, false, OTHER | MOST);
        fits(false, 2, 3, false, OTHER | FEWEST);
        fits(false, 6, 0, true, OTHER | MOST | FIRST);
        fits(true, 0, 6, true, OWN | FEWEST | FIRST);
        fits(true, 1, 0, true, OWN | MOST | FIRST);
        fits(false, 0, 1, true, OTHER | FEWEST | FIRST);
    }

    private static void fitsKnown() {
        Check.sentence("KNOWN by k: the first k; those by which all that is KNOWN of it is so");
        WhichBin x = Check.with(owns(5, 5, 5));
        x.tell(0, true, 1, 0, false, true);
        x.tell(1, true, 1, 0, false, false);
        x.tell(0, true, 0, 1, false, true);
        int[] due = {31, OWN | MOST, OWN | MOST, OWN};
        int[] other = {31, 31, FIRST | OTHER | FEWEST, FIRST | OTHER | FEWEST};
        for (int k = 0; k <= 3; k++) {
            Check.due("fits(0, " + k + ")", x.fits(0, k), due[k]);
            Check.due("fits(1, " + k + ")", x.fits(1, k), other[k]);
            Check.due("fits(2, " + k + ")", x.fits(2, k), 31);
        }
        // what is TOLD goes by numbers, not by PLACES
        x.swap(0, 2);
        Check.due("fits(0, 3)", x.fits(0, 3), OWN);
        Check.due("fits(2, 3)", x.fits(2, 3), 31);
    }

    private static void fitsNoSuchOnes() {
        Check.sentence("promise 33: FITS (bits); NONE: no such ones");
        WhichBin x = Check.with(owns(5, 5));
        x.tell(0, true, 0, 0, true, true);
        int[] houses = {-1, 2, 6, MAX, MIN};
        for (int house : houses) {
            Check.due("fits(" + house + ", 0)", x.fits(house, 0), NONE);
            Check.due("fits(" + house + ", 1)", x.fits(house, 1), NONE);
        }
        int[] others = {-1, 2, 20, 21, MAX, MIN};
        for (int k : others) {
            Check.due("fits(0, " + k + ")", x.fits(0, k), NONE);
        }
        Check.due("fits(0, 0)", x.fits(0, 0), 31);
        Check.due("fits(0, 1)", x.fits(0, 1), OWN | MOST | FIRST | FEWEST);
    }

    private static void noneAheadOfMinusTwo() {
        Check.sentence("Where NONE and -2 could both be told, it is NONE, if it is not told otherwise.");
        WhichBin x = Check.with(owns(10));
        Check.due("house(1, 4) before a NIGHT", x.house(1, 4), NONE);
        Check.due("house(0, 7) before a NIGHT", x.house(0, 7), NONE);
        Check.due("night(3) before a NIGHT", x.night(3), NONE);
        Check.due("fence(2) before a NIGHT", x.fence(2), NONE);
        Check.due("whom(7) of one HOUSE", x.whom(7), NONE);
        tells(x, 731, NONE, NONE);
        Check.due("herd(729) of no HOUSES", new WhichBin().herd(729), NONE);
        Check.due("herd(729) of one by its sign", x.herd(729), NONE);
    }
}
