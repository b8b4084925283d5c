/**
 * Each sentence on nights, habits and things done that names an edge (part II, promises 6 to 13 and 34 to 36), with a
 * test of its own.
 */
public final class NightEdgesTest {
    private static final int NONE = WhichBin.NONE;
    private static final int MIN = Integer.MIN_VALUE;
    private static final int MAX = Integer.MAX_VALUE;
    /** Brown always: a is right, b is wrong, c puts out both, d goes as a. */
    private static final String STREET = "house a 10 0 own;house b 0 6 own;house c 5 6 two;house d 5 0 as a;brown 10;"
            + "fine 7;both 4;leaflet 9;";

    public static void main(String[] args) {
        seesFewer();
        leafletIsSure();
        ownSign();
        mostNeitherIsCounted();
        mostAsManyOfBoth();
        firstWhetherItSeesItOrNot();
        firstItselfAndBoth();
        asIfItIsAhead();
        both();
        lawMoreThanNothing();
        lawVars();
        lawLead();
        firstThatHolds();
        intsThatWrap();
        roundedTowardsNought();
        dividedByNought();
        wiseLikelier();
        wiseNoneIsLikely();
        wiseSeesBoth();
        wiseKnows();
        wrongAndPaid();
        lots();
        nightsFarOn();
        byPlaces();
        houseWhat();
        houseNoNightYet();
        nightWhat();
        nightsGoBy();
        noSuchNights();
        leaflets();
        noLeaflet();
        swaps();
        noSwap();
        habits();
        noHabit();
        undone();
        nothingToUndo();
        lastFortyCanBe();
        rowsOfPuts();
        noSuchPuts();
        held();
        notHeld();
        goesOn();
        doesNotGoOn();
        counts();
        manyCalls();
        Check.finish("NightEdgesTest");
    }

    private static void law(String law, int row, int ifBrown, int ifBlue) {
        WhichBin x = Check.with("house a 6 0 own;house b 6 0 own;house c 6 0 own;house d 7 2 = " + law + ";");
        Check.sentenceAlso(law);
        Check.puts(x, 3, row, ifBrown, ifBlue);
    }

    private static void seesFewer() {
        Check.sentence("it sees those of the SEES HOUSES next ahead of it (fewer, if there are not so many)");
        for (int sees = 0; sees <= 6; sees++) {
            StringBuilder text = new StringBuilder();
            for (char name = 'a'; name <= 'f'; name++) {
                text.append("house ").append(name).append(" 6 ").append(sees).append(" = browns - blues * 0;");
            }
            WhichBin x = Check.with(text.toString());
            for (int place = 0; place < 6; place++) {
                // one brown bin ahead of the place, nearer and nearer: it is seen from SEES places ahead on
                for (int at = 0; at < place; at++) {
                    int[] bins = new int[6];
                    bins[at] = 1;
                    int seen = place - at <= sees ? 1 : 0;
                    Check.puts(x, place, Check.row(bins), seen, seen);
                }
                Check.puts(x, place, 0, 0, 0);
            }
        }
        // of SEES 6 at PLACE 2 there are two
        WhichBin x = Check.with("house a 6 6 own;house b 6 6 own;house c 6 6 = browns + blues - 1;");
        Check.puts(x, 2, Check.row(0, 1), 1, 1);
        Check.puts(x, 2, Check.row(0, 2), 0, 0);
        // SEES goes by PLACES, not by numbers
        x = Check.with("house a 6 1 = browns;house b 6 1 = browns;house c 6 1 = browns;");
        x.swap(0, 2);
        Check.puts(x, 0, Check.row(0, 1), 1, 1);
        Check.puts(x, 0, Check.row(1, 0), 0, 0);
        Check.puts(x, 2, Check.row(1, 1), 0, 0);
    }

    private static void leafletIsSure() {
        Check.sentence("A HOUSE with a LEAFLET is SURE in ten nights of ten, and goes by 'own', whatever its HABIT.");
        String[] habits = {"own", "most", "first", "as a", "wise", "two", "= 1"};
        for (String habit : habits) {
            WhichBin x = Check.with("house a 0 0 own;house b 0 6 " + habit + ";brown 5;");
            x.leaflet(1, true);
            Check.due("SURE", x.house(1, 1), 10);
            Check.due("HABIT", x.house(1, 2), 0);
            Check.puts(x, 1, 0, 1, 0);
            Check.puts(x, 1, 1, 1, 0);
            Check.fraction("chance", x.chance(1, false), x.chance(1, true), 0, 1);
            for (int i = 0; i < 10; i++) {
                x.nights(1);
                Check.due("its bin", x.house(1, 4), x.night(0));
                Check.due("its sign", x.house(1, 5), x.night(0));
            }
            Check.due("WRONGS", x.house(1, 6), 0);
            Check.due("WRONGS of a", x.house(0, 6), 10);
        }
        WhichBin x = Check.with("house a 0 0 own;house b 0 6 two;");
        x.leaflet(1, true);
        Check.due("habit", x.habit(1, 1), true);
        Check.due("HABIT", x.house(1, 2), 0);
        x.leaflet(1, false);
        Check.due("HABIT without", x.house(1, 2), 1);
        Check.due("SURE without", x.house(1, 1), 0);
    }

    private static void ownSign() {
        Check.sentence("own: as its sign");
        WhichBin x = Check.with("house a 0 0 own;house b 10 6 own;");
        Check.puts(x, 0, 0, 1, 0);
        Check.puts(x, 1, 0, 1, 0);
        Check.puts(x, 1, 1, 1, 0);
        Check.puts(x, 1, 2, 1, 0);
    }

    private static void mostNeitherIsCounted() {
        Check.sentence("most: of which it sees more (of those who put out both neither is counted)");
        WhichBin x = Check.with("house a 5 0 own;house b 5 0 own;house c 5 0 own;house d 5 3 most;");
        Check.puts(x, 3, Check.row(1, 2, 2), 1, 1);
        Check.puts(x, 3, Check.row(2, 0, 2), 0, 0);
        Check.puts(x, 3, Check.row(1, 1, 0), 1, 1);
        Check.puts(x, 3, Check.row(1, 0, 0), 0, 0);
        Check.puts(x, 3, Check.row(1, 1, 1), 1, 1);
        Check.puts(x, 3, Check.row(0, 0, 0), 0, 0);
    }

    private static void mostAsManyOfBoth() {
        Check.sentence("most: as many of both: as its sign");
        WhichBin x = Check.with("house a 5 6 most;house b 5 0 most;house c 5 2 most;house d 5 3 most;");
        Check.puts(x, 0, Check.row(1, 1, 1, 1), 1, 0);
        Check.puts(x, 1, Check.row(1), 1, 0);
        Check.puts(x, 2, Check.row(0, 1), 1, 0);
        Check.puts(x, 2, Check.row(2, 2), 1, 0);
        Check.puts(x, 3, Check.row(1, 0, 2), 1, 0);
    }

    private static void firstWhetherItSeesItOrNot() {
        Check.sentence("first: as the HOUSE at PLACE 0, whether it sees it or not");
        WhichBin x = Check.with("house a 5 0 own;house b 5 0 first;house c 5 1 first;house d 5 6 first;");
        Check.puts(x, 1, Check.row(1), 1, 1);
        Check.puts(x, 1, Check.row(0), 0, 0);
        Check.puts(x, 2, Check.row(1, 0), 1, 1);
        Check.puts(x, 2, Check.row(0, 1), 0, 0);
        Check.puts(x, 3, Check.row(0, 1, 1), 0, 0);
        x.swap(0, 3);
        Check.puts(x, 0, Check.row(1, 0, 0), 1, 0);
        Check.puts(x, 2, Check.row(1, 0), 1, 1);
    }

    private static void firstItselfAndBoth() {
        Check.sentence("first: that one itself, and if that one put out both: as its sign");
        WhichBin x = Check.with("house a 5 0 first;house b 5 6 first;");
        Check.puts(x, 0, Check.row(0), 1, 0);
        Check.puts(x, 0, Check.row(1, 1), 1, 0);
        Check.puts(x, 1, Check.row(2), 1, 0);
        x.swap(0, 1);
        Check.puts(x, 1, Check.row(1), 1, 0);
        Check.puts(x, 0, Check.row(0), 0, 0);
    }

    private static void asIfItIsAhead() {
        Check.sentence("as: as that HOUSE, if it is ahead (at a PLACE before its own) and put out one; else as its sign");
        WhichBin x = Check.with("house a 5 0 own;house b 5 0 own;house c 5 0 as b;house d 5 0 as a;");
        Check.puts(x, 2, Check.row(0, 1), 1, 1);
        Check.puts(x, 2, Check.row(1, 0), 0, 0);
        Check.puts(x, 2, Check.row(1, 2), 1, 0);
        Check.puts(x, 3, Check.row(1, 0, 0), 1, 1);
        Check.puts(x, 3, Check.row(0, 1, 1), 0, 0);
        Check.puts(x, 3, Check.row(2, 1, 1), 1, 0);
        // b is behind c now, at once and then by far; what the row holds there is not looked at
        x.swap(1, 2);
        Check.puts(x, 2, Check.row(1, 1, 1), 1, 0);
        Check.puts(x, 2, Check.row(0, 0, 0), 1, 0);
        x.swap(1, 3);
        Check.puts(x, 2, Check.row(1, 1, 1, 1), 1, 0);
        Check.puts(x, 3, Check.row(1, 0), 1, 1);
    }

    private static void both() {
        Check.sentence("two: both");
        WhichBin x = Check.with("house a 0 0 two;house b 10 6 two;");
        Check.puts(x, 0, 0, 2, 2);
        Check.puts(x, 1, 0, 2, 2);
        Check.puts(x, 1, 2, 2, 2);
    }

    private static void lawMoreThanNothing() {
        Check.sentence("LAW: brown if it tells more than 0; else blue");
        law("0", 0, 0, 0);
        law("1", 0, 1, 1);
        law("0 - 1", 0, 0, 0);
        law("9999", 0, 1, 1);
        law("0 - 9999", 0, 0, 0);
        law("sign", 0, 1, 0);
        law("0 - sign", 0, 0, 0);
    }

    private static void lawVars() {
        Check.sentence("LAW: sign, browns, blues: how many of these it sees; sees; sure; number: the HOUSE's");
        law("1 - sign", 0, 0, 1);
        law("browns", Check.row(1, 0, 0), 0, 0);
        law("browns", Check.row(0, 0, 1), 1, 1);
        law("browns - 1", Check.row(1, 1, 1), 1, 1);
        law("browns - 2", Check.row(1, 1, 1), 0, 0);
        law("browns", Check.row(0, 2, 2), 0, 0);
        law("blues", Check.row(0, 1, 1), 0, 0);
        law("blues", Check.row(0, 1, 0), 1, 1);
        law("blues - 1", Check.row(0, 0, 0), 1, 1);
        law("blues - 2", Check.row(0, 0, 0), 0, 0);
        law("blues", Check.row(0, 2, 2), 0, 0);
        law("sees - 1", 0, 1, 1);
        law("sees - 2", 0, 0, 0);
        law("sure - 6", 0, 1, 1);
        law("sure - 7", 0, 0, 0);
        law("number - 2", 0, 1, 1);
        law("number - 3", 0, 0, 0);
        // sees is SEES, even if there are not so many ahead; number is not the PLACE
        WhichBin x = Check.with("house a 0 6 = sees - 5;house b 0 6 = number;house c 0 0 = 1 - sees;"
                + "house d 10 0 = sure - 9;house e 0 0 = sure;");
        Check.puts(x, 0, 0, 1, 1);
        Check.puts(x, 2, 0, 1, 1);
        Check.puts(x, 3, 0, 1, 1);
        Check.puts(x, 4, 0, 0, 0);
        x.swap(0, 1);
        Check.puts(x, 1, 0, 1, 1);
        // five of one colour are the most that can be seen
        x = Check.with("house a 5 0 own;house b 5 0 own;house c 5 0 own;house d 5 0 own;house e 5 0 own;"
                + "house f 5 6 = (browns - 4) * (browns - 4) - (blues - 4) * (blues - 4);");
        Check.puts(x, 5, Check.row(0, 0, 0, 0, 0), 1, 1);
        Check.puts(x, 5, Check.row(1, 1, 1, 1, 1), 0, 0);
        Check.puts(x, 5, Check.row(2, 2, 2, 2, 2), 0, 0);
    }

    private static void lawLead() {
        Check.sentence("lead: of PLACE 0's bin 1 brown, 0 blue or both, or if it is itself there -1");
        law("lead", Check.row(1, 0, 0), 1, 1);
        law("lead - 1", Check.row(1, 0, 0), 0, 0);
        law("lead + 1", Check.row(0, 1, 1), 1, 1);
        law("lead", Check.row(0, 1, 1), 0, 0);
        law("lead + 1", Check.row(2, 1, 1), 1, 1);
        law("lead", Check.row(2, 1, 1), 0, 0);
        for (int row = 0; row < 27; row++) {
            law("lead", row, row % 3 == 1 ? 1 : 0, row % 3 == 1 ? 1 : 0);
        }
        WhichBin x = Check.with("house a 5 0 = lead + 1;house b 5 0 = 0 - lead;house c 5 0 = 2 + lead;");
        Check.puts(x, 0, Check.row(1, 1, 1), 0, 0);
        Check.puts(x, 1, Check.row(0), 0, 0);
        x.swap(0, 1);
        Check.puts(x, 1, Check.row(1, 1, 1), 1, 1);
        Check.puts(x, 0, Check.row(0), 1, 1);
        x.swap(1, 2);
        Check.puts(x, 2, 0, 1, 1);
        Check.puts(x, 1, Check.row(2, 1), 0, 0);
    }

    private static void firstThatHolds() {
        Check.sentence("LAWS: the E of the first if that holds (one less than the other), else the last one");
        law("if 1 < 2 then 1 else 0", 0, 1, 1);
        law("if 2 < 2 then 1 else 0", 0, 0, 0);
        law("if 3 < 2 then 1 else 0", 0, 0, 0);
        law("if 0 - 1 < 0 then 1 else 0", 0, 1, 1);
        law("if 0 < 0 - 1 then 1 else 0", 0, 0, 0);
        law("if 1 < 2 then 1 else if 1 < 2 then 0 else 0", 0, 1, 1);
        law("if 1 < 2 then 0 else if 1 < 2 then 1 else 1", 0, 0, 0);
        law("if 1 < 1 then 0 else if 1 < 2 then 1 else 0", 0, 1, 1);
        String fails = "if 1 < 1 then 0 else ";
        law(fails + fails + fails + "if 1 < 2 then 1 else 0", 0, 1, 1);
        law(fails + fails + fails + fails + "1", 0, 1, 1);
        law("if sign < 1 then 1 else 0", 0, 0, 1);
        law("if browns < blues then 0 else if blues < browns then 1 else sign", Check.row(0, 1, 0), 1, 0);
        law("if browns < blues then 0 else if blues < browns then 1 else sign", Check.row(0, 1, 1), 1, 1);
        law("if browns < blues then 0 else if blues < browns then 1 else sign", Check.row(1, 0, 0), 0, 0);
    }

    private static void intsThatWrap() {
        Check.sentence("LAWS: ints of 32 bits that wrap");
        String least = "8192*512*512";
        law(least, 0, 0, 0);
        law(least + " - 1", 0, 1, 1);
        law("0 - " + least, 0, 0, 0);
        law("0 - (" + least + " + 1)", 0, 1, 1);
        law("(" + least + " - 1) + 1", 0, 0, 0);
        law(least + " + " + least, 0, 0, 0);
        law(least + " + " + least + " + 1", 0, 1, 1);
        law("4096*1024*1024 + 1", 0, 1, 1);
        law("4096*1024*1024", 0, 0, 0);
        law("9999*9999*43", 0, 1, 1);
        law("9999*9999*22", 0, 0, 0);
        law("9999*9999*9999", 0, 0, 0);
        law("if " + least + " < 0 then 1 else 0", 0, 1, 1);
        law("if 0 < " + least + " - 1 then 1 else 0", 0, 1, 1);
        law("if " + least + " < " + least + " - 1 then 1 else 0", 0, 1, 1);
        // the least one by -1 is itself
        law(least + " / (0 - 1)", 0, 0, 0);
        law(least + " / (0 - 1) - 1", 0, 1, 1);
        law(least + " * (0 - 1) - 1", 0, 1, 1);
        // it is -214769 by 9999
        law("0 - (" + least + " / 9999 + 2147 * 100 + 68)", 0, 1, 1);
        law("0 - (" + least + " / 9999 + 2147 * 100 + 69)", 0, 0, 0);
    }

    private static void roundedTowardsNought() {
        Check.sentence("LAWS: / rounded towards 0");
        law("7 / 2 - 2", 0, 1, 1);
        law("7 / 2 - 3", 0, 0, 0);
        law("(0 - 7) / 2 + 4", 0, 1, 1);
        law("(0 - 7) / 2 + 3", 0, 0, 0);
        law("7 / (0 - 2) + 4", 0, 1, 1);
        law("7 / (0 - 2) + 3", 0, 0, 0);
        law("(0 - 7) / (0 - 2) - 2", 0, 1, 1);
        law("(0 - 7) / (0 - 2) - 3", 0, 0, 0);
        law("1 / 2", 0, 0, 0);
        law("(0 - 1) / 2 + 1", 0, 1, 1);
        law("0 / 5", 0, 0, 0);
        // from the left to the right, and * and / ahead of + and -
        law("9 / 2 * 2 - 7", 0, 1, 1);
        law("9 / 2 * 2 - 8", 0, 0, 0);
        law("100 / 10 / 5 - 1", 0, 1, 1);
        law("100 / 10 / 5 - 2", 0, 0, 0);
        law("9 - 4 - 4", 0, 1, 1);
        law("9 - 4 - 5", 0, 0, 0);
        law("9 - (4 - 5)", 0, 1, 1);
        law("1 - 4 / 4", 0, 0, 0);
    }

    private static void dividedByNought() {
        Check.sentence("LAWS: one in which something that is looked at is divided by 0 tells 0");
        law("1 / 0", 0, 0, 0);
        law("0 / 0", 0, 0, 0);
        law("9 + 1 / 0", 0, 0, 0);
        law("1 / 0 + 9", 0, 0, 0);
        law("9 + 0 * (1 / 0)", 0, 0, 0);
        law("9 + 1 / (4 - 2 * 2)", 0, 0, 0);
        law("9 + 1 / (1 / 2)", 0, 0, 0);
        law("9 + 9 / sign", 0, 1, 0);
        law("9 - 9 / browns", Check.row(0, 0, 0), 0, 0);
        law("9 - 8 / browns", Check.row(0, 1, 0), 1, 1);
        law("if 1 / 0 < 9 then 9 else 9", 0, 0, 0);
        law("if 9 < 1 / 0 then 9 else 9", 0, 0, 0);
        law("if 1 < 2 then 9 + 1 / 0 else 9", 0, 0, 0);
        law("if 1 < 2 then 9 else 1 / 0", 0, 1, 1);
        law("if 2 < 1 then 1 / 0 else 9", 0, 1, 1);
        law("if 2 < 1 then 9 else 9 + 1 / 0", 0, 0, 0);
        law("if 1 < 2 then 9 else if 1 / 0 < 1 then 9 else 9", 0, 1, 1);
        law("if 2 < 1 then 9 else if 1 / 0 < 1 then 9 else 9", 0, 0, 0);
        law("if 2 < 1 then 9 else if 2 < 1 then 1 / 0 else 9", 0, 1, 1);
        // more is multiplied to 2^32, which is 0
        law("9 + 1 / (8192 * 8192 * 64)", 0, 0, 0);
    }

    private static void wiseLikelier() {
        Check.sentence("wise: brown if these are likelier brown than blue, blue if less likely; else as its sign");
        // brown 7 * 4 against blue 3 * 6 for a blue sign; 6 * 4 against 4 * 6 are alike
        Check.puts(Check.with("house a 6 0 wise;brown 7;"), 0, 0, 1, 1);
        Check.puts(Check.with("house a 6 0 wise;brown 6;"), 0, 0, 1, 0);
        Check.puts(Check.with("house a 6 0 wise;brown 5;"), 0, 0, 1, 0);
        Check.puts(Check.with("house a 6 0 wise;brown 4;"), 0, 0, 1, 0);
        Check.puts(Check.with("house a 6 0 wise;brown 3;"), 0, 0, 0, 0);
        // SURE 5 tells nothing, less than 5 the other colour
        Check.puts(Check.with("house a 5 0 wise;brown 5;"), 0, 0, 1, 0);
        Check.puts(Check.with("house a 5 0 wise;brown 6;"), 0, 0, 1, 1);
        Check.puts(Check.with("house a 4 0 wise;brown 5;"), 0, 0, 0, 1);
        Check.puts(Check.with("house a 0 0 wise;brown 5;"), 0, 0, 0, 1);
        // what it sees stands against its own sign: alike, as its sign
        WhichBin x = Check.with("house a 7 0 own;house b 7 1 wise;house c 7 1 wise;");
        Check.puts(x, 1, 1, 1, 0);
        Check.puts(x, 1, 0, 1, 0);
        x = Check.with("house a 7 0 own;house b 6 1 wise;house c 7 0 wise;");
        Check.puts(x, 1, 1, 1, 1);
        Check.puts(x, 1, 0, 0, 0);
        Check.puts(x, 2, 0, 1, 0);
    }

    private static void wiseNoneIsLikely() {
        Check.sentence("wise: else (or none is likely at all) as its sign");
        Check.puts(Check.with("house a 10 0 wise;brown 10;"), 0, 0, 1, 0);
        Check.puts(Check.with("house a 10 0 wise;brown 0;"), 0, 0, 1, 0);
        Check.puts(Check.with("house a 0 0 wise;brown 10;"), 0, 0, 1, 1);
        Check.puts(Check.with("house a 0 0 wise;brown 0;"), 0, 0, 0, 0);
        Check.puts(Check.with("house a 9 0 wise;brown 10;"), 0, 0, 1, 1);
        Check.puts(Check.with("house a 9 0 wise;brown 0;"), 0, 0, 0, 0);
        WhichBin x = Check.with("house a 10 0 own;house b 6 6 wise;brown 10;");
        Check.puts(x, 1, 1, 1, 1);
        Check.puts(x, 1, 0, 1, 0);
        Check.puts(x, 1, 2, 1, 0);
        x = Check.with("house a 6 0 two;house b 6 6 wise;brown 9;");
        Check.puts(x, 1, 2, 1, 1);
        Check.puts(x, 1, 1, 1, 0);
        // a row that cannot be, but of which what cannot be is not seen
        x = Check.with("house a 10 0 own;house b 6 0 own;house c 6 1 wise;house d 6 2 wise;brown 10;");
        Check.puts(x, 2, Check.row(0, 0), 1, 1);
        Check.puts(x, 3, Check.row(0, 1, 1), 1, 1);
        Check.puts(x, 3, Check.row(1, 1, 0), 1, 0);
    }

    private static void wiseSeesBoth() {
        Check.sentence("wise: it sees what it sees (both bins out is seen, too)");
        // a puts out both always: rows in which it does not cannot be, and it is then as c's own sign is
        WhichBin x = Check.with("house a 5 0 two;house b 9 0 own;house c 6 6 wise;");
        Check.puts(x, 2, Check.row(2, 1), 1, 1);
        Check.puts(x, 2, Check.row(2, 0), 0, 0);
        Check.puts(x, 2, Check.row(2, 2), 1, 0);
        Check.puts(x, 2, Check.row(1, 1), 1, 0);
        // it does not see a, of whom it knows what a does
        x = Check.with("house a 5 0 two;house b 9 0 own;house c 6 1 wise;");
        Check.puts(x, 2, Check.row(0, 1), 1, 1);
        Check.puts(x, 2, Check.row(1, 0), 0, 0);
    }

    private static void wiseKnows() {
        Check.sentence("It knows the HABITS, LEAFLETS and PLACES of all.");
        WhichBin x = Check.with("house a 6 0 own;house b 8 6 wise;");
        Check.puts(x, 1, 1, 1, 0);
        x.leaflet(0, true);
        Check.puts(x, 1, 1, 1, 1);
        x.undo();
        Check.puts(x, 1, 1, 1, 0);
        x = Check.with("house a 9 0 own;house b 6 6 own;house c 8 1 wise;");
        Check.puts(x, 2, Check.row(0, 1), 1, 0);
        x.habit(1, 2);
        Check.puts(x, 2, Check.row(0, 1), 1, 1);
        x.undo();
        x.swap(0, 1);
        Check.puts(x, 2, Check.row(0, 1), 1, 1);
        // a law that tells the other colour than its sign
        x = Check.with("house a 9 0 = 1 - sign;house b 6 6 wise;");
        Check.puts(x, 1, 1, 0, 0);
        Check.puts(x, 1, 0, 1, 1);
    }

    private static void wrongAndPaid() {
        Check.sentence("A HOUSE is WRONG if it put out one bin, of the other colour than the NIGHT's. It pays FINE for"
                + " that, BOTH for both out.");
        WhichBin x = Check.with(STREET);
        x.nights(1);
        Check.due("WRONG", x.night(1), 1);
        Check.due("paid", x.night(2), 11);
        int[] wrongs = {0, 1, 0, 0};
        for (int house = 0; house < 4; house++) {
            Check.due("WRONGS", x.house(house, 6), wrongs[house]);
        }
        x = Check.with("house a 10 0 own;house b 0 6 own;house c 5 6 two;brown 0;fine 30;both 30;");
        x.nights(1);
        Check.due("blue", x.night(0), 0);
        Check.due("WRONG", x.night(1), 1);
        Check.due("paid", x.night(2), 60);
        Check.due("brown bin of b", x.house(1, 4), 1);
        x = Check.with("house a 0 0 own;house b 0 6 own;house c 5 6 two;fine 0;both 0;");
        x.nights(50);
        Check.due("WRONG", x.night(1), 2);
        Check.due("all WRONGS", x.count(4), 100);
        Check.due("paid", x.night(2), 0);
        Check.due("COINS", x.count(2), 0);
    }

    /** LOT 10 of a SEED and 16 * the night and 0 (the colour) to 6 (of HOUSE 5), night by night; by another program. */
    private static final String[][] LOTS = {
        {"0", "7709676", "2090906", "5263834", "4298521", "6925669", "3210498", "4129823", "9294536"},
        {"1", "4786361", "9671491", "4386990", "1863449", "7707305", "3636074", "6301101", "1894634"},
        {"5000", "9436016", "8709007", "3850334", "3945667", "5885698", "6962181", "3813498", "4122185"},
        {"9999", "3837883", "4146928", "1941205", "8956352", "1430470", "0123985", "7459638", "8909167"}};

    private static void lots() {
        Check.sentence("it is brown if LOT 10 is less than BROWN; the sign of a HOUSE is right if LOT 10 is less than SURE");
        for (String[] one : LOTS) {
            for (int level = 0; level <= 10; level++) {
                StringBuilder text = new StringBuilder();
                text.append("brown ").append(level).append(";seed ").append(one[0]).append(';');
                for (char name = 'a'; name <= 'f'; name++) {
                    text.append("house ").append(name).append(' ').append(level).append(" 0 own;");
                }
                WhichBin x = Check.with(text.toString());
                x.swap(1, 4);
                for (int night = 1; night < one.length; night++) {
                    x.nights(1);
                    int brown = one[night].charAt(0) - '0' < level ? 1 : 0;
                    Check.due("night " + night + " by SEED " + one[0] + ", BROWN " + level, x.night(0), brown);
                    for (int house = 0; house < 6; house++) {
                        boolean right = one[night].charAt(1 + house) - '0' < level;
                        Check.due("sign of " + house + " then", x.house(house, 5), right ? brown : 1 - brown);
                    }
                }
            }
        }
    }

    private static void nightsFarOn() {
        Check.sentence("16 * the night; 32 bits that wrap");
        for (int level = 1; level <= 10; level++) {
            WhichBin x = Check.with("brown " + level + ";seed 9999;house a 5 0 own;");
            for (int i = 0; i < 500; i++) {
                x.nights(50);
            }
            // LOT 10 of SEED 9999 and 16 * 25000 is 4
            Check.due("night 25001", x.nights(1), 25001);
            Check.due("its colour, BROWN " + level, x.night(0), 4 < level ? 1 : 0);
        }
    }

    private static void byPlaces() {
        Check.sentence("HOUSE by HOUSE, by PLACES, has a sign, and puts out a bin");
        WhichBin x = Check.with("house a 6 0 own;house b 6 1 most;house c 5 6 two;house d 6 2 first;house e 6 6 wise;"
                + "house f 6 3 = browns * 2 - blues;seed 77;fine 9;both 4;");
        int coins = 0;
        for (int night = 0; night < 40; night++) {
            x.swap(night % 6, (night * night + 1) % 5);
            x.nights(1);
            int row = 0;
            int paid = 0;
            int wrongs = 0;
            for (int place = 0; place < 6; place++) {
                int house = 0;
                while (x.house(house, 0) != place) {
                    house++;
                }
                int bin = x.puts(house, x.house(house, 5) == 1, row);
                Check.due("bin of " + house + " in night " + night, x.house(house, 4), bin);
                row += bin * (int) Math.pow(3, place);
                paid += bin == 2 ? 4 : bin != x.night(0) ? 9 : 0;
                wrongs += bin != 2 && bin != x.night(0) ? 1 : 0;
            }
            coins += paid;
            Check.due("WRONG", x.night(1), wrongs);
            Check.due("paid", x.night(2), paid);
            Check.due("COINS", x.count(2), coins);
            if (night % 5 == 4) {
                x = again(x, night);
                coins = 0;
            }
        }
    }

    /** A new object, since one is for 512 calls; its SEED is another one. */
    private static WhichBin again(WhichBin old, int seed) {
        Check.due("WRONG so far", old.count(4) > 0, true);
        return Check.with("house a 6 0 own;house b 6 1 most;house c 5 6 two;house d 6 2 first;house e 6 6 wise;"
                + "house f 6 3 = browns * 2 - blues;fine 9;both 4;seed " + seed + ";");
    }

    private static void houseWhat() {
        Check.sentence("promise 6: NONE for others");
        WhichBin x = Check.with(STREET);
        int[] whats = {-1, 7, 8, MAX, MIN};
        int[] houses = {-1, 4, 5, 6, MAX, MIN};
        for (int round = 0; round < 2; round++) {
            for (int what : whats) {
                Check.due("house(0, " + what + ")", x.house(0, what), NONE);
                Check.due("house(3, " + what + ")", x.house(3, what), NONE);
                Check.due("house(4, " + what + ")", x.house(4, what), NONE);
            }
            for (int house : houses) {
                for (int what = 0; what <= 6; what++) {
                    Check.due("house(" + house + ", " + what + ")", x.house(house, what), NONE);
                }
            }
            x.nights(1);
        }
        int[][] due = {{0, 10, 0, 0, 1, 1, 0}, {1, 0, 0, 0, 0, 0, 2}, {2, 5, 5, 0, 2, x.house(2, 5), 0},
            {3, 5, 3, 0, 1, x.house(3, 5), 0}};
        for (int house = 0; house < 4; house++) {
            for (int what = 0; what <= 6; what++) {
                Check.due("house(" + house + ", " + what + ")", x.house(house, what), due[house][what]);
            }
        }
    }

    private static void houseNoNightYet() {
        Check.sentence("promise 6: -2: no NIGHT yet");
        WhichBin x = Check.with(STREET);
        for (int house = 0; house < 4; house++) {
            Check.due("bin", x.house(house, 4), -2);
            Check.due("sign", x.house(house, 5), -2);
            Check.due("WRONGS", x.house(house, 6), 0);
        }
        x.hold(0);
        x.nights(1);
        Check.due("bin", x.house(0, 4), 1);
        x.undo();
        Check.due("bin, undone", x.house(0, 4), -2);
        Check.due("sign, undone", x.house(0, 5), -2);
        x.nights(1);
        x.restore(0);
        Check.due("bin, as held", x.house(0, 4), -2);
        Check.due("sign, as held", x.house(0, 5), -2);
    }

    private static void nightWhat() {
        Check.sentence("promise 7: -2: no NIGHT yet; NONE for others");
        WhichBin x = Check.with(STREET);
        int[] others = {-1, -2, 3, 4, MAX, MIN};
        for (int round = 0; round < 2; round++) {
            for (int what : others) {
                Check.due("night(" + what + ")", x.night(what), NONE);
            }
            for (int what = 0; what <= 2; what++) {
                Check.due("night(" + what + ")", x.night(what), -2);
            }
            x.nights(3);
            for (int what : others) {
                Check.due("night(" + what + ")", x.night(what), NONE);
            }
            Check.due("night(0)", x.night(0), 1);
            Check.due("night(1)", x.night(1), 1);
            Check.due("night(2)", x.night(2), 11);
            x.undo();
        }
        // the last NIGHT is as it was, whatever is done then
        x.nights(1);
        x.leaflet(1, true);
        x.habit(2, 0);
        Check.due("night(1)", x.night(1), 1);
        Check.due("night(2)", x.night(2), 11);
        Check.due("bin of c", x.house(2, 4), 2);
    }

    private static void nightsGoBy() {
        Check.sentence("promise 8: n NIGHTS (0 .. 50; 0 is no thing done) go by: which it is");
        WhichBin x = Check.with(STREET);
        Check.due("nights(0)", x.nights(0), 0);
        Check.due("things", x.count(9), 0);
        Check.due("still no NIGHT", x.night(0), -2);
        Check.due("nights(1)", x.nights(1), 1);
        Check.due("nights(50)", x.nights(50), 51);
        Check.due("nights(0)", x.nights(0), 51);
        Check.due("things", x.count(9), 2);
        Check.due("COINS", x.count(2), 51 * 11);
        Check.due("undo of all fifty", x.undo(), true);
        Check.due("the night", x.count(1), 1);
    }

    private static void noSuchNights() {
        Check.sentence("promise 8: NONE, and nothing happens: no such n");
        WhichBin x = Check.with(STREET);
        x.nights(2);
        int[] others = {-1, 51, 52, 100, MAX, MIN};
        for (int n : others) {
            Check.due("nights(" + n + ")", x.nights(n), NONE);
            Check.due("the night", x.count(1), 2);
            Check.due("things", x.count(9), 1);
            Check.due("COINS", x.count(2), 22);
        }
    }

    private static void leaflets() {
        Check.sentence("promise 9: A LEAFLET is given (its price is paid) or taken back: true");
        WhichBin x = Check.with(STREET);
        for (int house = 0; house < 4; house++) {
            Check.due("given", x.leaflet(house, true), true);
            Check.due("LEAFLETS", x.count(3), (2 << house) - 1);
            Check.due("COINS", x.count(2), 9 * (house + 1));
            Check.due("things", x.count(9), house + 1);
        }
        Check.due("taken back", x.leaflet(0, false), true);
        Check.due("LEAFLETS", x.count(3), 14);
        Check.due("COINS are not", x.count(2), 36);
        Check.due("given again", x.leaflet(0, true), true);
        Check.due("COINS", x.count(2), 45);
        x = Check.with("house a 5 0 own;leaflet 999;");
        x.leaflet(0, true);
        Check.due("COINS", x.count(2), 999);
        x = Check.with("house a 5 0 own;leaflet 0;");
        Check.due("given for nothing", x.leaflet(0, true), true);
        Check.due("COINS", x.count(2), 0);
        Check.due("has one", x.house(0, 3), 1);
    }

    private static void noLeaflet() {
        Check.sentence("promise 9: false, and nothing happens: it is so, no such HOUSE");
        WhichBin x = Check.with(STREET);
        x.leaflet(2, true);
        int[] others = {-1, 4, 6, 31, 32, 34, MAX, MIN};
        for (int house : others) {
            Check.due("leaflet(" + house + ", true)", x.leaflet(house, true), false);
            Check.due("leaflet(" + house + ", false)", x.leaflet(house, false), false);
        }
        Check.due("leaflet(2, true)", x.leaflet(2, true), false);
        Check.due("leaflet(1, false)", x.leaflet(1, false), false);
        Check.due("LEAFLETS", x.count(3), 4);
        Check.due("COINS", x.count(2), 9);
        Check.due("things", x.count(9), 1);
        Check.due("leaflet(0, true) without HOUSES", new WhichBin().leaflet(0, true), false);
    }

    private static void swaps() {
        Check.sentence("promise 10: Two HOUSES change PLACES: true");
        WhichBin x = Check.with(STREET);
        Check.due("swap(0, 3)", x.swap(0, 3), true);
        Check.due("swap(3, 1)", x.swap(3, 1), true);
        int[] places = {3, 0, 2, 1};
        for (int house = 0; house < 4; house++) {
            Check.due("PLACE", x.house(house, 0), places[house]);
        }
        Check.due("swap(1, 3) back", x.swap(1, 3), true);
        Check.due("swap(3, 0) back", x.swap(3, 0), true);
        for (int house = 0; house < 4; house++) {
            Check.due("PLACE", x.house(house, 0), house);
        }
        Check.due("things", x.count(9), 4);
        Check.due("COINS", x.count(2), 0);
    }

    private static void noSwap() {
        Check.sentence("promise 10: false, and nothing happens: one and the same, no such ones");
        WhichBin x = Check.with(STREET);
        for (int house = 0; house < 4; house++) {
            Check.due("one and the same", x.swap(house, house), false);
        }
        int[] others = {-1, 4, 6, MAX, MIN};
        for (int other : others) {
            Check.due("swap(0, " + other + ")", x.swap(0, other), false);
            Check.due("swap(" + other + ", 0)", x.swap(other, 0), false);
            Check.due("swap(" + other + ", " + other + ")", x.swap(other, other), false);
        }
        Check.due("things", x.count(9), 0);
        for (int house = 0; house < 4; house++) {
            Check.due("PLACE", x.house(house, 0), house);
        }
    }

    private static void habits() {
        Check.sentence("promise 11: Another HABIT (0 own, 1 most, 2 first, 4 wise, 5 two; NONE: as told): true");
        String[] told = {"own", "most", "first", "as a", "wise", "two", "= 1"};
        int[] some = {0, 1, 2, 4, 5};
        for (int as = 0; as < told.length; as++) {
            WhichBin x = Check.with("house a 5 0 own;house b 5 0 " + told[as] + ";");
            for (int habit : some) {
                Check.due("habit(1, " + habit + ")", x.habit(1, habit), true);
                Check.due("HABIT", x.house(1, 2), habit);
                Check.due("habit(1, NONE)", x.habit(1, NONE), true);
                Check.due("HABIT as told", x.house(1, 2), as);
            }
            Check.due("things", x.count(9), 10);
            Check.due("HABIT of the other HOUSE", x.house(0, 2), 0);
        }
        WhichBin x = Check.with("house a 5 0 own;house b 5 0 as a;house c 5 0 = 1;");
        x.habit(1, 0);
        x.habit(2, 0);
        Check.puts(x, 1, 1, 1, 0);
        Check.puts(x, 2, 1, 1, 0);
        x.habit(1, NONE);
        x.habit(2, NONE);
        Check.puts(x, 1, 1, 1, 1);
        Check.puts(x, 2, 0, 1, 1);
    }

    private static void noHabit() {
        Check.sentence("promise 11: false, and nothing happens: it is what was set last by habit() (NONE at first), no such"
                + " ones");
        WhichBin x = Check.with("house a 5 0 own;house b 5 0 as a;house c 5 0 = 1;");
        int[] others = {3, 6, 7, 8, -2, -3, MAX, MIN};
        for (int house = 0; house < 3; house++) {
            Check.due("NONE at first", x.habit(house, NONE), false);
            for (int habit : others) {
                Check.due("habit(" + house + ", " + habit + ")", x.habit(house, habit), false);
            }
        }
        int[] houses = {-1, 3, 6, MAX, MIN};
        for (int house : houses) {
            Check.due("habit(" + house + ", 1)", x.habit(house, 1), false);
            Check.due("habit(" + house + ", NONE)", x.habit(house, NONE), false);
        }
        Check.due("things", x.count(9), 0);
        // told as own, but not set so: that is a thing done
        Check.due("habit(0, 0)", x.habit(0, 0), true);
        Check.due("habit(0, 0) again", x.habit(0, 0), false);
        Check.due("undo()", x.undo(), true);
        Check.due("NONE is what is set again", x.habit(0, NONE), false);
        Check.due("habit(0, 0) once more", x.habit(0, 0), true);
        x.hold(0);
        x.habit(0, 5);
        x.restore(0);
        Check.due("0 is what is set", x.habit(0, 0), false);
        Check.due("things", x.count(9), 0);
    }

    private static void undone() {
        Check.sentence("promise 12: The last thing done (nights, leaflet, swap, habit) is undone: true");
        WhichBin x = Check.with(STREET);
        x.nights(2);
        x.leaflet(1, true);
        x.swap(0, 1);
        x.habit(3, 5);
        x.nights(50);
        // none of these is a thing done
        x.tell(0, true, 0, 0, true, true);
        x.hold(0);
        Check.feed(x, "seed 1;");
        x.nights(0);
        x.leaflet(1, true);
        x.swap(2, 2);
        x.habit(3, 5);
        Check.due("things", x.count(9), 5);
        Check.due("undo nights", x.undo(), true);
        Check.due("the night", x.count(1), 2);
        Check.due("COINS", x.count(2), 31);
        Check.due("WRONG so far", x.count(4), 2);
        Check.due("bin of d then", x.house(3, 4), 1);
        Check.due("HABIT", x.house(3, 2), 5);
        Check.due("undo habit", x.undo(), true);
        Check.due("HABIT", x.house(3, 2), 3);
        Check.due("PLACE", x.house(0, 0), 1);
        Check.due("undo swap", x.undo(), true);
        Check.due("PLACE", x.house(0, 0), 0);
        Check.due("undo leaflet", x.undo(), true);
        Check.due("LEAFLETS", x.count(3), 0);
        Check.due("COINS come back", x.count(2), 22);
        Check.due("undo nights", x.undo(), true);
        Check.due("night(0)", x.night(0), -2);
        Check.due("COINS", x.count(2), 0);
        Check.due("WRONGS of b", x.house(1, 6), 0);
        Check.due("things", x.count(9), 0);
        Check.due("TOLD", x.count(10), 1);
        Check.due("SLOTS", x.count(11), 1);
        Check.due("tape", x.count(8), 7);
        lastNightsUndone();
        // a LEAFLET taken back is there again, and costs nothing then
        x.leaflet(2, true);
        x.leaflet(2, false);
        x.undo();
        Check.due("LEAFLETS", x.count(3), 4);
        Check.due("COINS", x.count(2), 9);
    }

    private static int[] lastNight(WhichBin x) {
        return new int[] {x.count(1), x.count(2), x.count(4), x.night(0), x.night(1), x.night(2), x.house(0, 4), x.house(0, 5),
            x.house(0, 6), x.house(1, 4), x.house(1, 5), x.house(1, 6)};
    }

    private static void lastNightsUndone() {
        WhichBin x = Check.with("house a 6 0 own;house b 4 0 own;seed 3;");
        int[][] ahead = new int[20][];
        for (int i = 0; i < 20; i++) {
            ahead[i] = lastNight(x);
            if (i == 10) {
                x.hold(0);
            }
            x.nights(1);
        }
        for (int i = 19; i >= 5; i--) {
            x.undo();
            int[] now = lastNight(x);
            for (int k = 0; k < now.length; k++) {
                Check.due("thing " + k + " of night " + i + ", undone", now[k], ahead[i][k]);
            }
        }
        x.restore(0);
        int[] now = lastNight(x);
        for (int k = 0; k < now.length; k++) {
            Check.due("thing " + k + " of night 10, held", now[k], ahead[10][k]);
        }
    }

    private static void nothingToUndo() {
        Check.sentence("promise 12: false: there is none");
        WhichBin x = Check.with(STREET);
        Check.due("undo()", x.undo(), false);
        x.swap(0, 1);
        Check.due("undo()", x.undo(), true);
        Check.due("undo()", x.undo(), false);
        Check.due("undo()", x.undo(), false);
        Check.due("PLACE", x.house(0, 0), 0);
        Check.due("things", x.count(9), 0);
    }

    private static void lastFortyCanBe() {
        Check.sentence("promise 12: (the last 40 can be)");
        for (int done = 38; done <= 82; done++) {
            WhichBin x = Check.with(STREET);
            for (int i = 0; i < done; i++) {
                x.nights(1);
                Check.due("things", x.count(9), Math.min(i + 1, 40));
            }
            int can = Math.min(done, 40);
            for (int i = 1; i <= can; i++) {
                Check.due("undo " + i + " of " + done, x.undo(), true);
                Check.due("the night", x.count(1), done - i);
                Check.due("things", x.count(9), can - i);
            }
            Check.due("one more", x.undo(), false);
            Check.due("the night", x.count(1), done - can);
        }
    }

    private static void rowsOfPuts() {
        Check.sentence("promise 13: if the HOUSES ahead of it by PLACES had put out a row (3 to the PLACE, times 0, 1, 2)");
        WhichBin x = Check.with("house a 5 6 own;house b 5 6 as a;house c 5 6 as b;house d 5 6 as c;house e 5 6 as d;"
                + "house f 5 6 as e;");
        int three = 1;
        for (int house = 1; house < 6; house++) {
            Check.puts(x, house, three, 1, 1);
            Check.puts(x, house, 2 * three, 1, 0);
            Check.puts(x, house, 728 - 2 * three, 0, 0);
            Check.puts(x, house, 364, 1, 1);
            Check.puts(x, house, 0, 0, 0);
            Check.puts(x, house, 728, 1, 0);
            // its own PLACE and those behind are not looked at
            Check.puts(x, house, 728 - 728 % (3 * three) + three, 1, 1);
            three *= 3;
        }
        Check.puts(x, 0, 0, 1, 0);
        Check.puts(x, 0, 728, 1, 0);
        // before the NIGHT and after it: bins that are out are not looked at
        x.nights(5);
        Check.puts(x, 1, 0, 0, 0);
        Check.puts(x, 1, 1, 1, 1);
    }

    private static void noSuchPuts() {
        Check.sentence("promise 13: NONE: no such ones (a row 0 .. 728)");
        WhichBin x = Check.with(STREET);
        int[] rows = {-1, 729, 730, MAX, MIN};
        for (int row : rows) {
            Check.puts(x, 0, row, NONE, NONE);
            Check.puts(x, 2, row, NONE, NONE);
        }
        int[] houses = {-1, 4, 6, MAX, MIN};
        for (int house : houses) {
            Check.puts(x, house, 0, NONE, NONE);
        }
        Check.puts(x, 0, 728, 1, 0);
        Check.puts(x, 2, 728, 2, 2);
        Check.puts(new WhichBin(), 0, 0, NONE, NONE);
    }

    private static void held() {
        Check.sentence("promise 34: All that goes on (not what is TOLD, nor the tape) is held in a SLOT (0 .. 2): true");
        WhichBin x = Check.with(STREET);
        x.leaflet(1, true);
        x.nights(2);
        x.swap(0, 2);
        x.habit(3, 5);
        x.nights(1);
        x.tell(0, true, 0, 0, true, true);
        Check.feed(x, "seed 1;");
        int[] counts = new int[13];
        for (int slot = 0; slot < 3; slot++) {
            Check.due("hold", x.hold(slot), true);
            Check.due("SLOTS", x.count(11), slot + 1);
        }
        for (int what = 0; what <= 12; what++) {
            counts[what] = x.count(what);
        }
        x.leaflet(1, false);
        x.swap(1, 2);
        x.habit(3, 0);
        x.nights(20);
        x.tell(0, true, 0, 0, true, true);
        Check.feed(x, "seed 2;");
        for (int slot = 2; slot >= 0; slot--) {
            Check.due("restore", x.restore(slot), true);
            for (int what = 0; what <= 12; what++) {
                int due = what == 8 ? 14 : what == 9 ? 0 : what == 10 ? 2 : counts[what];
                Check.due("count(" + what + ")", x.count(what), due);
            }
            Check.due("PLACE", x.house(0, 0), 2);
            Check.due("HABIT", x.house(3, 2), 5);
            Check.due("bin of d", x.house(3, 4), 2);
            Check.due("paid", x.night(2), 8);
            x.nights(slot);
            x.habit(3, NONE);
        }
        Check.due("hold in place of what is held", x.hold(1), true);
        Check.due("SLOTS", x.count(11), 3);
        x.nights(3);
        x.restore(1);
        Check.due("the night", x.count(1), 3);
        Check.due("HABIT", x.house(3, 2), 3);
    }

    private static void notHeld() {
        Check.sentence("promise 34: false: no such one");
        WhichBin x = Check.with(STREET);
        int[] others = {-1, 3, 4, MAX, MIN};
        for (int slot : others) {
            Check.due("hold(" + slot + ")", x.hold(slot), false);
        }
        Check.due("SLOTS", x.count(11), 0);
        Check.due("hold without HOUSES", new WhichBin().hold(2), true);
    }

    private static void goesOn() {
        Check.sentence("promise 35: It goes on from what a SLOT holds (that stays there; nothing can be undone then)");
        WhichBin x = Check.with(STREET);
        x.nights(2);
        x.hold(1);
        for (int round = 0; round < 3; round++) {
            x.nights(4);
            x.swap(0, 1);
            Check.due("restore(1)", x.restore(1), true);
            Check.due("the night", x.count(1), 2);
            Check.due("SLOTS", x.count(11), 1);
            Check.due("things", x.count(9), 0);
            Check.due("undo()", x.undo(), false);
            Check.due("PLACE", x.house(0, 0), 0);
        }
        x.nights(1);
        Check.due("undo() of what is done then", x.undo(), true);
        Check.due("the night", x.count(1), 2);
        Check.due("undo()", x.undo(), false);
        // it goes on as it would have gone on
        WhichBin y = Check.with(STREET);
        y.nights(2);
        x.nights(9);
        y.nights(9);
        Check.due("COINS", x.count(2), y.count(2));
        Check.due("sign of c", x.house(2, 5), y.house(2, 5));
    }

    private static void doesNotGoOn() {
        Check.sentence("promise 35: false, and nothing happens: no such one, nothing is held");
        WhichBin x = Check.with(STREET);
        x.hold(1);
        x.nights(2);
        int[] others = {-1, 0, 2, 3, 4, MAX, MIN};
        for (int slot : others) {
            Check.due("restore(" + slot + ")", x.restore(slot), false);
            Check.due("the night", x.count(1), 2);
            Check.due("things", x.count(9), 1);
        }
    }

    private static void counts() {
        Check.sentence("promise 36: NONE for others");
        WhichBin x = Check.with(STREET);
        int[] others = {-1, -2, 13, 14, MAX, MIN};
        for (int what : others) {
            Check.due("count(" + what + ")", x.count(what), NONE);
        }
        int[] due = {4, 0, 0, 0, 0, 10, 7, 4, 0, 0, 0, 0, 9};
        for (int what = 0; what <= 12; what++) {
            Check.due("count(" + what + ")", x.count(what), due[what]);
        }
        x.nights(3);
        x.leaflet(2, true);
        x.leaflet(0, true);
        x.hold(2);
        x.tell(0, true, 0, 0, true, true);
        x.tell(0, true, 0, 0, true, true);
        x.feed(0, 0, 0, 0, 0);
        int[] then = {4, 3, 51, 5, 3, 10, 7, 4, 20, 3, 2, 1, 9};
        for (int what = 0; what <= 12; what++) {
            Check.due("count(" + what + ") then", x.count(what), then[what]);
        }
    }

    private static void manyCalls() {
        Check.sentence("An object is used for at most 512 calls");
        WhichBin x = Check.with("house a 0 0 own;house b 0 0 own;house c 0 0 own;house d 0 0 own;house e 0 0 own;"
                + "house f 0 0 own;fine 30;");
        for (int i = 1; i <= 490; i++) {
            Check.due("nights(50)", x.nights(50), 50 * i);
        }
        Check.due("COINS", x.count(2), 490 * 50 * 6 * 30);
        Check.due("all WRONGS", x.count(4), 490 * 50 * 6);
        Check.due("WRONGS of f", x.house(5, 6), 490 * 50);
        Check.due("things", x.count(9), 40);
        Check.due("undo()", x.undo(), true);
        Check.due("the night", x.count(1), 489 * 50);
    }
}
