/** Promises 13 to 30: what would be, by small streets that can be reckoned by hand. */
public final class WouldBeTest {
    private static final int NONE = WhichBin.NONE;
    /** b sees a, whose sign is surer than its own: it goes by a's bin. */
    private static final String FOLLOWED = "house a 7 0 own; house b 6 1 wise;";

    public static void main(String[] args) {
        putsByHabits();
        putsByLaw();
        putsByWorlds();
        followed();
        prices();
        leaflets();
        swapAndHour();
        betterAndRests();
        fence();
        year();
        wrongInputs();
        noHouses();
        Check.finish("WouldBeTest");
    }

    private static void putsByHabits() {
        WhichBin x = Check.with("house a 8 0 first; house b 8 6 own; house c 5 6 two; house d 8 2 most;"
                + "house e 8 0 first; house f 8 0 as b;");
        Check.puts(x, 0, Check.row(0), 1, 0);
        Check.puts(x, 0, Check.row(2, 1), 1, 0);
        Check.puts(x, 1, Check.row(0), 1, 0);
        Check.puts(x, 2, Check.row(0, 0), 2, 2);
        Check.puts(x, 3, Check.row(0, 1, 1), 1, 1);
        Check.puts(x, 3, Check.row(1, 0, 0), 0, 0);
        Check.puts(x, 3, Check.row(1, 0, 1), 1, 0);
        Check.puts(x, 3, Check.row(1, 0, 2), 0, 0);
        Check.puts(x, 3, Check.row(0, 2, 1), 1, 1);
        Check.puts(x, 3, Check.row(1, 2, 2), 1, 0);
        Check.puts(x, 4, Check.row(1, 0, 0, 0), 1, 1);
        Check.puts(x, 4, Check.row(0, 1, 1, 1), 0, 0);
        Check.puts(x, 4, Check.row(2, 1, 1, 1), 1, 0);
        Check.puts(x, 5, Check.row(0, 1, 0, 0, 0), 1, 1);
        Check.puts(x, 5, Check.row(1, 0, 1, 1, 1), 0, 0);
        Check.puts(x, 5, Check.row(1, 2, 1, 1, 1), 1, 0);
        Check.puts(x, 5, Check.row(0, 1, 0, 0, 0, 2), 1, 1);
        x.swap(1, 5);
        Check.puts(x, 5, Check.row(0, 1, 0, 0, 0), 1, 0);
        Check.puts(x, 1, Check.row(0, 0, 0, 0, 0), 1, 0);
        x.leaflet(3, true);
        Check.puts(x, 3, Check.row(0, 1, 1), 1, 0);
        x.leaflet(3, false);
        x.habit(3, 2);
        Check.puts(x, 3, Check.row(0, 1, 1), 0, 0);
    }

    private static void law(String law, int row, int ifBrown, int ifBlue) {
        WhichBin x = Check.with("house a 6 0 own; house b 6 0 own; house c 6 0 own; house d 7 2 = " + law + ";");
        Check.puts(x, 3, row, ifBrown, ifBlue);
    }

    private static void putsByLaw() {
        law("sign", 0, 1, 0);
        law("1 - sign", 0, 0, 1);
        law("browns - 1", Check.row(1, 1, 0), 0, 0);
        law("browns - 1", Check.row(0, 1, 1), 1, 1);
        law("blues - 1", Check.row(1, 0, 0), 1, 1);
        law("browns + blues - 1", Check.row(1, 2, 0), 0, 0);
        law("sees - 1", 0, 1, 1);
        law("sees - 2", 0, 0, 0);
        law("sure - 6", 0, 1, 1);
        law("sure - 7", 0, 0, 0);
        law("number - 2", 0, 1, 1);
        law("number - 3", 0, 0, 0);
        law("lead", Check.row(1, 0, 0), 1, 1);
        law("lead", Check.row(2, 1, 1), 0, 0);
        law("lead + 1", Check.row(2, 1, 1), 1, 1);
        law("2 + 3 * 4 - 13", 0, 1, 1);
        law("2 + 3 * 4 - 14", 0, 0, 0);
        law("10 - 4 - 5", 0, 1, 1);
        law("10 - 4 - 6", 0, 0, 0);
        law("10 - (4 - 6)", 0, 1, 1);
        law("7 / 2 * 2 - 6", 0, 0, 0);
        law("7 / 2 * 2 - 5", 0, 1, 1);
        law("(0 - 7) / 2 + 4", 0, 1, 1);
        law("(0 - 7) / 2 + 3", 0, 0, 0);
        law("(2 + 3) * (4 - 3) - 4", 0, 1, 1);
        law("9999 * 9999 * 9999", 0, 0, 0);
        law("9999 * 9999 * 43", 0, 1, 1);
        law("9999 * 9999 * 22", 0, 0, 0);
        law("1 + 1 / 0", 0, 0, 0);
        law("1 + 0 * (1 / 0)", 0, 0, 0);
        law("if 1 < 2 then 1 else 0", 0, 1, 1);
        law("if 2 < 2 then 1 else 0", 0, 0, 0);
        law("if sign < 1 then 1 else 0", 0, 0, 1);
        law("if 2 < 1 then 0 else if 1 < 2 then 1 else 0", 0, 1, 1);
        law("if 2 < 1 then 0 else if 2 < 1 then 0 else if 2 < 1 then 0 else if 2 < 1 then 0 else 1", 0, 1, 1);
        law("if 1 < 2 then 1 else if 1 < 2 then 0 else 0", 0, 1, 1);
        law("if 1 < 2 then 1 else 1 / 0", 0, 1, 1);
        law("if 2 < 1 then 1 / 0 else 1", 0, 1, 1);
        law("if 1 / 0 < 1 then 1 else 1", 0, 0, 0);
        law("if 1 < 2 then 1 else if 1 / 0 < 1 then 1 else 1", 0, 1, 1);
        law("if 2 < 1 then 1 else if 1 < 1 / 0 then 1 else 1", 0, 0, 0);
        WhichBin x = Check.with("house a 6 0 = 0 - lead; house b 6 0 = lead;");
        Check.puts(x, 0, 0, 1, 1);
        Check.puts(x, 1, 1, 1, 1);
        x.swap(0, 1);
        Check.puts(x, 0, 1, 0, 0);
        Check.puts(x, 1, 1, 0, 0);
        // houses have laws of their own, and lose them for another text's
        x = Check.with("house a 6 0 = 1; house b 6 0 = 0; house c 6 0 = 1;");
        Check.puts(x, 0, 0, 1, 1);
        Check.puts(x, 1, 0, 0, 0);
        Check.puts(x, 2, 0, 1, 1);
        Check.due("read", Check.read(x, "house a 6 0 = 0; house b 6 0 = sign;"), 0);
        Check.puts(x, 0, 0, 0, 0);
        Check.puts(x, 1, 0, 1, 0);
        // the longest law that can be, text after text, with a fault between
        for (int i = 0; i < 6; i++) {
            String ones = "+1".repeat(190) + "-190";
            Check.due("read", Check.read(x, "house a 6 0 = " + i + ones + ";"), 0);
            Check.puts(x, 0, 0, i > 0 ? 1 : 0, i > 0 ? 1 : 0);
            Check.due("read", Check.read(x, "house a 6 0 = 1 - " + i + ones + ")"), 1);
            Check.puts(x, 0, 0, i > 0 ? 1 : 0, i > 0 ? 1 : 0);
        }
    }

    private static void putsByWorlds() {
        WhichBin x = Check.with("house a 7 0 own; house b 7 6 wise; house c 7 6 wise; house d 7 1 wise;");
        Check.puts(x, 0, 0, 1, 0);
        Check.puts(x, 1, Check.row(1), 1, 0);
        // two bins alike tell of a and, half, of b; a third sign cannot stand against them
        Check.puts(x, 2, Check.row(1, 1), 1, 1);
        Check.puts(x, 2, Check.row(0, 0), 0, 0);
        Check.puts(x, 2, Check.row(0, 1), 1, 0);
        Check.puts(x, 3, Check.row(0, 0, 1), 1, 1);
        // what is likely in no world: as its sign
        Check.puts(x, 2, Check.row(2, 1), 1, 0);
        x = Check.with("house a 9 0 own; house b 6 6 wise; brown 9;");
        Check.puts(x, 0, 0, 1, 0);
        Check.puts(x, 1, Check.row(1), 1, 1);
        Check.puts(x, 1, Check.row(0), 1, 0);
        x = Check.with("house a 6 0 wise; brown 9;");
        Check.puts(x, 0, 0, 1, 1);
        x.leaflet(0, true);
        Check.puts(x, 0, 0, 1, 0);
        x = Check.with("house a 7 0 two; house b 6 6 wise; house c 5 6 wise;");
        Check.puts(x, 1, Check.row(2), 1, 0);
        Check.puts(x, 2, Check.row(2, 1), 1, 1);
        Check.puts(x, 2, Check.row(1, 1), 1, 0);
        // a leaflet of one ahead is known
        x = Check.with("house a 6 0 own; house b 8 6 wise;");
        Check.puts(x, 1, Check.row(1), 1, 0);
        x.leaflet(0, true);
        Check.puts(x, 1, Check.row(1), 1, 1);
        x.leaflet(0, false);
        x.habit(0, 2);
        Check.puts(x, 1, Check.row(1), 1, 0);
    }

    private static void followed() {
        WhichBin x = Check.with(FOLLOWED);
        Check.fraction("chance(0)", x.chance(0, false), x.chance(0, true), 3, 10);
        Check.fraction("chance(1)", x.chance(1, false), x.chance(1, true), 3, 10);
        Check.fraction("mean", x.mean(false), x.mean(true), 3, 5);
        Check.fraction("street(0)", x.street(0, false), x.street(0, true), 7, 10);
        Check.fraction("street(1)", x.street(1, false), x.street(1, true), 0, 1);
        Check.fraction("street(2)", x.street(2, false), x.street(2, true), 3, 10);
        Check.fraction("street(3)", x.street(3, false), x.street(3, true), 0, 1);
        Check.fraction("pays", x.pays(false), x.pays(true), 6, 1);
        Check.fraction("tells(1 1)", x.tells(4, false), x.tells(4, true), 7, 10);
        Check.fraction("tells(0 0)", x.tells(0, false), x.tells(0, true), 3, 10);
        Check.fraction("tells(0 0 ..)", x.tells(720, false), x.tells(720, true), 3, 10);
        Check.fraction("tells(1 0)", x.tells(1, false), x.tells(1, true), -2, -2);
        Check.due("herd(0)", x.herd(0), 1);
        Check.due("herd(8)", x.herd(8), -2);
        Check.due("whom(1)", x.whom(1), 1);
        Check.fraction("worth(0)", x.worth(0, false), x.worth(0, true), 3, 5);
        Check.fraction("worth(1)", x.worth(1, false), x.worth(1, true), 3, 10);
        Check.due("bestSwap", x.bestSwap(), -2);
        Check.due("better", x.better(), 0);
        // brown is not so likely as blue
        x = Check.with("house a 8 0 own; brown 2;");
        Check.fraction("tells(1)", x.tells(1, false), x.tells(1, true), 1, 2);
        Check.fraction("tells(0)", x.tells(0, false), x.tells(0, true), 1, 17);
        x = Check.with("house a 8 0 own; brown 0;");
        Check.fraction("tells(1)", x.tells(1, false), x.tells(1, true), 0, 1);
        x = Check.with("house a 10 0 own; brown 0;");
        Check.fraction("tells(1)", x.tells(1, false), x.tells(1, true), -2, -2);
        Check.fraction("tells(0)", x.tells(0, false), x.tells(0, true), 0, 1);
        Check.fraction("chance", x.chance(0, false), x.chance(0, true), 0, 1);
        x = Check.with("house a 8 0 two; house b 8 0 two; house c 8 0 two; house d 8 0 two; house e 8 0 two;"
                + "house f 8 0 two; brown 3;");
        Check.fraction("tells(2 2 2 2 2 2)", x.tells(728, false), x.tells(728, true), 3, 10);
        x.habit(5, 0);
        Check.fraction("tells(2 2 2 2 2 2)", x.tells(728, false), x.tells(728, true), -2, -2);
        Check.fraction("tells(2 2 2 2 2 1)", x.tells(485, false), x.tells(485, true), 12, 19);
        // the first place from which on nobody goes by its sign
        x = Check.with("house a 8 0 two; house b 8 0 own; house c 8 0 first; house d 8 6 most; house e 8 0 as a;");
        Check.due("herd", x.herd(Check.row(1, 1, 1, 1)), 2);
        Check.due("herd", x.herd(Check.row(2, 1, 1, 1)), -2);
        Check.due("herd", x.herd(Check.row(1, 0, 2, 0)), 4);
        Check.due("herd", x.herd(Check.row(1, 0, 0, 0)), 2);
        Check.due("herd", x.herd(Check.row(1, 0, 1, 0)), 2);
        Check.due("herd", x.herd(Check.row(1, 0, 2, 2)), 4);
        x.habit(1, 5);
        Check.due("herd", x.herd(Check.row(1, 1, 1, 1)), 0);
        Check.due("herd", x.herd(Check.row(2, 1, 1, 1)), -2);
    }

    private static void prices() {
        WhichBin x = Check.with("house a 6 0 own; house b 7 0 two; house c 8 0 own; fine 20; both 3;");
        Check.fraction("pays", x.pays(false), x.pays(true), 15, 1);
        Check.due("two", x.two(), 5);
        Check.fraction("chance(1)", x.chance(1, false), x.chance(1, true), 0, 1);
        Check.fraction("street(0)", x.street(0, false), x.street(0, true), 12, 25);
        Check.fraction("street(1)", x.street(1, false), x.street(1, true), 11, 25);
        Check.fraction("street(2)", x.street(2, false), x.street(2, true), 2, 25);
        Check.due("read", Check.read(x, "house a 6 0 own; house b 7 0 two; house c 8 0 own; fine 20; both 4;"), 0);
        Check.due("two: not more", x.two(), 1);
        x.leaflet(0, true);
        Check.due("two", x.two(), 0);
        Check.fraction("pays without leaflets", x.pays(false), x.pays(true), 8, 1);
        Check.due("read", Check.read(x, "house a 6 0 own; fine 0; both 0;"), 0);
        Check.due("two", x.two(), 0);
        Check.fraction("pays", x.pays(false), x.pays(true), 0, 1);
    }

    private static void leaflets() {
        WhichBin x = Check.with("house a 9 0 own; house b 7 0 own; house c 7 0 own; house d 8 0 own;");
        int[] whom = {0, 2, 6, 14, 15, -2, -2};
        for (int n = 0; n < whom.length; n++) {
            Check.due("whom(" + n + ")", x.whom(n), whom[n]);
        }
        int[] fewest = {4, 3, 3, 2, 2, 2, 1, 1, 1, 0, 0};
        for (int tenths = 0; tenths < fewest.length; tenths++) {
            Check.due("fewest(" + tenths + ")", x.fewest(tenths), fewest[tenths]);
        }
        Check.due("fewest(60)", x.fewest(60), 0);
        x.leaflet(1, true);
        Check.due("whom(1)", x.whom(1), 4);
        Check.due("whom(3)", x.whom(3), 13);
        Check.due("whom(4)", x.whom(4), -2);
        Check.due("fewest(0)", x.fewest(0), 3);
        Check.due("fewest(3)", x.fewest(3), 1);
        Check.fraction("worth(1)", x.worth(1, false), x.worth(1, true), 0, 1);
        Check.fraction("worth(2)", x.worth(2, false), x.worth(2, true), 3, 10);
        Check.fraction("worth(0)", x.worth(0, false), x.worth(0, true), 1, 10);
        x.leaflet(1, false);
        Check.due("whom(1) as before", x.whom(1), 2);
        // b is the only one that c hears of; with a leaflet for b, who cries the other way, c is wrong more often
        x = Check.with("house a 9 0 own; house b 5 0 two; house c 9 6 = 1 - lead * 2; brown 10;");
        Check.fraction("chance(2)", x.chance(2, false), x.chance(2, true), 9, 10);
        Check.fraction("worth(0)", x.worth(0, false), x.worth(0, true), 0, 1);
        x = Check.with("house a 6 0 own; house b 9 6 = 1 - lead * 2; house c 9 6 = 1 - lead * 2; brown 10;");
        Check.fraction("mean", x.mean(false), x.mean(true), 8, 5);
        Check.fraction("worth(0)", x.worth(0, false), x.worth(0, true), -2, 5);
        Check.due("whom(1)", x.whom(1), 2);
        x.leaflet(0, true);
        Check.fraction("mean", x.mean(false), x.mean(true), 2, 1);
    }

    private static void swapAndHour() {
        WhichBin x = Check.with("house a 6 1 most; house b 9 0 own;");
        Check.due("bestSwap", x.bestSwap(), 1);
        Check.fraction("mean", x.mean(false), x.mean(true), 1, 2);
        x.swap(0, 1);
        Check.fraction("mean", x.mean(false), x.mean(true), 1, 5);
        Check.due("bestSwap", x.bestSwap(), -2);
        x = Check.with("house a 6 0 own; house b 9 0 own; house c 9 0 own; house d 5 6 first;");
        Check.due("bestSwap: the first of alike ones", x.bestSwap(), 1);
        x = Check.with("house a 6 0 own; house b 7 0 own; house c 9 0 own; house d 5 6 first; house e 9 0 own;");
        Check.due("bestSwap: not the first that is less", x.bestSwap(), 2);
        x = Check.with("house a 6 0 own; house b 7 0 own; house c 8 0 own;");
        Check.due("bestSwap: alike", x.bestSwap(), -2);
        Check.fraction("hour(0)", x.hour(0, false), x.hour(0, true), 9, 10);
        Check.fraction("hour(1)", x.hour(1, false), x.hour(1, true), 1, 2);
        Check.fraction("hour(2)", x.hour(2, false), x.hour(2, true), 1, 5);
        Check.fraction("hour(3)", x.hour(3, false), x.hour(3, true), 0, 1);
        Check.fraction("mean after hours", x.mean(false), x.mean(true), 9, 10);
        Check.due("bestHour", x.bestHour(), 3);
        x = Check.with("house a 6 0 own; house b 6 6 wise; house c 6 1 wise; house d 6 0 two; house e 6 1 most;");
        // b knows, and c knows that b does; e sees both of d only, and goes by its own sign
        Check.fraction("hour(1)", x.hour(1, false), x.hour(1, true), 2, 5);
        Check.fraction("hour(3)", x.hour(3, false), x.hour(3, true), 2, 5);
        Check.fraction("hour(4)", x.hour(4, false), x.hour(4, true), 0, 1);
        Check.due("bestHour", x.bestHour(), 4);
    }

    private static void betterAndRests() {
        WhichBin x = Check.with("house a 6 0 own; house b 9 6 most; house c 5 6 most;");
        // c sees a and b, which are alike
        Check.due("better", x.better(), 2);
        Check.due("rests", x.rests(-1), 2);
        Check.due("rests(0)", x.rests(0), 2);
        Check.due("rests(1)", x.rests(1), 3);
        Check.due("rests(2)", x.rests(2), NONE);
        Check.due("rests(-2)", x.rests(-2), NONE);
        x.leaflet(0, true);
        Check.due("better", x.better(), 0);
        Check.due("rests", x.rests(-1), 1);
        Check.due("rests(0)", x.rests(0), 0);
        x.habit(2, 5);
        Check.due("rests after a habit", x.rests(-1), 1);
        x.leaflet(0, false);
        x.habit(1, 0);
        Check.due("rests: both things are one", x.rests(-1), 4);
        Check.due("rests(3)", x.rests(3), 3);
        x.undo();
        Check.due("rests when undone", x.rests(-1), 2);
    }

    /** Brown always, signs sure: row by row as told, one bin for a house. */
    private static WhichBin rowOfBins(int... bins) {
        StringBuilder text = new StringBuilder("brown 10;");
        for (int place = 0; place < bins.length; place++) {
            text.append("house ").append((char) ('a' + place));
            text.append(bins[place] == 0 ? " 0 0 own;" : bins[place] == 1 ? " 10 0 own;" : " 5 0 two;");
        }
        WhichBin x = Check.with(text.toString());
        Check.due("fence(0) before", x.fence(0), -2);
        Check.due("fence(1) before", x.fence(1), -2);
        Check.due("fence(2) before", x.fence(2), NONE);
        Check.due("fence(-1) before", x.fence(-1), NONE);
        x.nights(1);
        return x;
    }

    private static void fence() {
        WhichBin x = rowOfBins(1, 0, 1);
        Check.due("fence(0)", x.fence(0), 1);
        Check.due("fence(1)", x.fence(1), Check.row(1, 1, 1));
        Check.due("fence(2)", x.fence(2), NONE);
        Check.due("bins stay", x.house(1, 4), 0);
        x.swap(0, 1);
        Check.due("fence(0) by the places now", x.fence(0), 0);
        Check.due("fence(1) by the places now", x.fence(1), Check.row(0, 1, 1));
        x = rowOfBins(1, 0, 1, 0, 1, 0);
        Check.due("fence(0)", x.fence(0), 2);
        Check.due("fence(1)", x.fence(1), Check.row(1, 1, 1, 0, 0, 0));
        x = rowOfBins(0, 2, 0, 2, 1, 2);
        Check.due("fence(0)", x.fence(0), 1);
        Check.due("fence(1)", x.fence(1), Check.row(0, 0, 0, 2, 1, 2));
        x = rowOfBins(0, 1);
        Check.due("fence(0)", x.fence(0), 0);
        Check.due("fence(1)", x.fence(1), Check.row(0, 1));
    }

    private static void year() {
        WhichBin x = Check.with("house a 6 0 own; house b 5 6 wise; house c 7 6 most; brown 6; seed 20;");
        x.nights(7);
        int sum = 0;
        for (int seed = 20; seed < 30; seed++) {
            WhichBin y = Check.with("house a 6 0 own; house b 5 6 wise; house c 7 6 most; brown 6; seed " + seed + ";");
            y.nights(7);
            int before = y.count(4);
            y.nights(30);
            sum += y.count(4) - before;
            if (seed == 20 || seed == 29) {
                Check.due("year(30, " + (seed - 19) + ")", x.year(30, seed - 19), sum);
            }
        }
        Check.due("nothing happened", x.count(1), 7);
        Check.due("nothing to undo", x.count(9), 1);
        int wrongs = x.count(4);
        int one = x.year(1, 1);
        int fifty = x.year(50, 1);
        x.nights(1);
        Check.due("year(1, 1)", one, x.count(4) - wrongs);
        x.nights(49);
        Check.due("year(50, 1)", fifty, x.count(4) - wrongs);
    }

    private static void wrongInputs() {
        WhichBin x = Check.with(FOLLOWED);
        int[] wrongHouses = {-1, 2, 6, Integer.MAX_VALUE, Integer.MIN_VALUE};
        for (int house : wrongHouses) {
            Check.due("puts", x.puts(house, true, 0), NONE);
            Check.fraction("chance", x.chance(house, false), x.chance(house, true), NONE, NONE);
            Check.fraction("worth", x.worth(house, false), x.worth(house, true), NONE, NONE);
        }
        int[] wrongRows = {-1, 729, Integer.MAX_VALUE, Integer.MIN_VALUE};
        for (int row : wrongRows) {
            Check.due("puts", x.puts(0, true, row), NONE);
            Check.fraction("tells", x.tells(row, false), x.tells(row, true), NONE, NONE);
            Check.due("herd", x.herd(row), NONE);
        }
        Check.due("puts, row 728", x.puts(0, true, 728), 1);
        Check.due("tells, row 728", x.tells(728, true), -2);
        int[] wrongNumbers = {-1, 7, Integer.MAX_VALUE, Integer.MIN_VALUE};
        for (int n : wrongNumbers) {
            Check.fraction("street", x.street(n, false), x.street(n, true), NONE, NONE);
            Check.due("whom", x.whom(n), NONE);
        }
        Check.fraction("street(6)", x.street(6, false), x.street(6, true), 0, 1);
        Check.due("whom(6)", x.whom(6), -2);
        Check.due("fewest(-1)", x.fewest(-1), NONE);
        Check.due("fewest(61)", x.fewest(61), NONE);
        Check.due("fewest(60)", x.fewest(60), 0);
        Check.fraction("hour(-1)", x.hour(-1, false), x.hour(-1, true), NONE, NONE);
        Check.fraction("hour(3)", x.hour(3, false), x.hour(3, true), NONE, NONE);
        Check.due("rests(2^31-1)", x.rests(Integer.MAX_VALUE), NONE);
        Check.due("rests(-2^31)", x.rests(Integer.MIN_VALUE), NONE);
        int[][] wrongYears = {{0, 1}, {51, 1}, {1, 0}, {1, 11}, {-1, 1}, {1, -1}};
        for (int[] year : wrongYears) {
            Check.due("year(" + year[0] + ", " + year[1] + ")", x.year(year[0], year[1]), NONE);
        }
    }

    private static void noHouses() {
        WhichBin x = Check.with("brown 4;");
        Check.fraction("mean", x.mean(false), x.mean(true), 0, 1);
        Check.fraction("pays", x.pays(false), x.pays(true), 0, 1);
        Check.fraction("street(0)", x.street(0, false), x.street(0, true), 1, 1);
        Check.fraction("tells(5)", x.tells(5, false), x.tells(5, true), 2, 5);
        Check.due("herd", x.herd(0), -2);
        Check.due("whom(0)", x.whom(0), 0);
        Check.due("whom(1)", x.whom(1), -2);
        Check.due("fewest(0)", x.fewest(0), 0);
        Check.due("bestSwap", x.bestSwap(), -2);
        Check.due("bestHour", x.bestHour(), 0);
        Check.fraction("hour(0)", x.hour(0, false), x.hour(0, true), 0, 1);
        Check.due("two", x.two(), 0);
        Check.due("better", x.better(), 0);
        Check.due("rests", x.rests(-1), 1);
        Check.due("rests(0)", x.rests(0), 0);
        Check.due("year", x.year(50, 10), 0);
        x.nights(1);
        Check.due("fence(0)", x.fence(0), 0);
        Check.due("fence(1)", x.fence(1), 0);
    }
}
