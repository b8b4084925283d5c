/**
 * Each sentence on the tape, on texts and on their faults that names an edge (promises 1 to 5 and the Terms), with a
 * test of its own.
 */
public final class TextEdgesTest {
    private static final int NONE = WhichBin.NONE;
    private static final int BLANKS = 0x20202020;
    private static final String OWN = " 5 0 own;";
    /** What stands ahead of the E of a law: 14 bytes. */
    private static final String LAW = "house a 5 0 = ";
    private static final String[] WORDS = {"house", "brown", "fine", "both", "leaflet", "seed", "own", "most", "first",
        "as", "wise", "two", "if", "then", "else", "sign", "browns", "blues", "sees", "sure", "number", "lead"};

    public static void main(String[] args) {
        nothingIsTold();
        twentyBytesComeBehind();
        highestByteFirst();
        nothingComesIfItWouldBeTooMuch();
        bytesGo();
        nothingGoes();
        tapeIsEmptyThen();
        emptyTapeIsAText();
        placeOfTheLatestRead();
        bytesOfAText();
        blanks();
        allElseIsNoToken();
        longestTokens();
        names();
        namesAreNoWords();
        ints();
        signs();
        housesAtMost();
        numbersAtTheirBounds();
        whatIsNotTold();
        theLastOne();
        asTheyStand();
        firstByPlace();
        syntaxAtTheEnd();
        syntaxAtAToken();
        tokensAtMost();
        seventhHouse();
        fifthIf();
        seventhWithinOneAnother();
        ifThereIsNone();
        twice();
        nameNotToldAhead();
        wrongInts();
        intsOfLawsAreNeverWrong();
        faultChangesNothing();
        inPlaceOfTheOneAhead();
        Check.finish("TextEdgesTest");
    }

    private static void nothingIsTold() {
        Check.sentence("promise 1: Nothing is told.");
        WhichBin x = new WhichBin();
        int[] counts = {0, 0, 0, 0, 0, 5, 10, 5, 0, 0, 0, 0, 3};
        for (int what = 0; what < counts.length; what++) {
            Check.due("count(" + what + ")", x.count(what), counts[what]);
        }
        for (int house = 0; house < 6; house++) {
            for (int what = 0; what <= 6; what++) {
                Check.due("house(" + house + ", " + what + ")", x.house(house, what), NONE);
            }
            Check.due("chance", x.chance(house, false), NONE);
            Check.due("fits", x.fits(house, 0), NONE);
            Check.due("tell", x.tell(house, true, 0, 0, true, true), NONE);
        }
        Check.fraction("tells(0)", x.tells(0, false), x.tells(0, true), 1, 2);
        Check.due("place()", x.place(), NONE);
        Check.due("night(0)", x.night(0), -2);
        Check.due("undo()", x.undo(), false);
        for (int slot = 0; slot < 3; slot++) {
            Check.due("restore(" + slot + ")", x.restore(slot), false);
        }
        Check.due("back(1)", x.back(1), NONE);
        Check.due("forget()", x.forget(), 0);
    }

    private static int feedBlanks(WhichBin x) {
        return x.feed(BLANKS, BLANKS, BLANKS, BLANKS, BLANKS);
    }

    private static WhichBin withFullTape() {
        WhichBin x = new WhichBin();
        for (int i = 1; i <= 100; i++) {
            Check.due("feed " + i, feedBlanks(x), 20 * i);
        }
        return x;
    }

    private static void twentyBytesComeBehind() {
        Check.sentence("promise 2: Twenty bytes come behind the tape: how many it has");
        WhichBin x = new WhichBin();
        Check.due("feed", x.feed(0, 0, 0, 0, 0), 20);
        Check.due("count(8)", x.count(8), 20);
        Check.due("feed", x.feed(-1, -1, -1, -1, -1), 40);
        Check.due("back(39)", x.back(39), 1);
        Check.due("feed", x.feed(1, 2, 3, 4, 5), 21);
        withFullTape();
    }

    private static void highestByteFirst() {
        Check.sentence("promise 2: the highest of a first");
        String text = "brown 1;fine 2;both 3;leaflet 4;seed 15;";
        WhichBin x = Check.with(text);
        Check.due("BROWN", x.count(5), 1);
        Check.due("FINE", x.count(6), 2);
        Check.due("BOTH", x.count(7), 3);
        Check.due("LEAFLET", x.count(12), 4);
        // one wrong byte at each place of twenty, of 127 and above: nothing of it goes to the bytes beside
        for (int at = 0; at < 20; at++) {
            for (char sign = 127; sign < 256; sign += 64) {
                Check.fault(" ".repeat(at) + sign + " ".repeat(19 - at), 1, at);
            }
        }
    }

    private static void nothingComesIfItWouldBeTooMuch() {
        Check.sentence("promise 2: NONE, and nothing comes, if it would have more than 2,000.");
        for (int room = 0; room <= 20; room++) {
            WhichBin x = withFullTape();
            Check.due("back(" + room + ")", x.back(room), 2000 - room);
            Check.due("feed with room for " + room, x.feed(0, 0, 0, 0, 0), room < 20 ? NONE : 2000);
            Check.due("count(8)", x.count(8), room < 20 ? 2000 - room : 2000);
            // what had come would be no text
            Check.due("read()", x.read(), room < 20 ? 0 : 1);
        }
    }

    private static void bytesGo() {
        Check.sentence("promise 3: The last n bytes of the tape go: how many it has.");
        WhichBin x = new WhichBin();
        Check.due("back(0) of an empty one", x.back(0), 0);
        Check.feed(x, "seed 1;seed 2;seed 3");
        Check.due("back(0)", x.back(0), 20);
        Check.due("back(6)", x.back(6), 14);
        Check.feed(x, "fine 7;");
        Check.due("read()", x.read(), 0);
        Check.due("FINE", x.count(6), 7);
        x = withFullTape();
        Check.due("back(2000)", x.back(2000), 0);
        Check.due("count(8)", x.count(8), 0);
        Check.due("feed", feedBlanks(x), 20);
        Check.due("back(20)", x.back(20), 0);
    }

    private static void nothingGoes() {
        Check.sentence("promise 3: NONE, and nothing goes, if it has not so many, or n is below 0.");
        WhichBin x = new WhichBin();
        Check.due("back(1) of an empty one", x.back(1), NONE);
        Check.feed(x, "fine 7;");
        int[] wrong = {8, 9, 2000, Integer.MAX_VALUE, -1, -7, Integer.MIN_VALUE};
        for (int n : wrong) {
            Check.due("back(" + n + ")", x.back(n), NONE);
            Check.due("count(8)", x.count(8), 7);
        }
        Check.due("read()", x.read(), 0);
        Check.due("FINE", x.count(6), 7);
    }

    private static void tapeIsEmptyThen() {
        Check.sentence("promise 4: The tape, which is empty then, is read: 0, or the number of its FAULT.");
        WhichBin x = Check.with("fine 7;");
        Check.due("count(8)", x.count(8), 0);
        Check.due("read of a fault", Check.read(x, "fine 8; x"), 1);
        Check.due("count(8)", x.count(8), 0);
        Check.due("back(1)", x.back(1), NONE);
        // nothing of the one ahead stands behind a shorter one
        Check.due("read", Check.read(x, "fine 6;"), 0);
        Check.due("FINE", x.count(6), 6);
    }

    private static void emptyTapeIsAText() {
        Check.sentence("text: {TELL}, none at all too");
        WhichBin x = Check.with("house a 5 0 own; fine 7;");
        x.nights(2);
        Check.due("read() of an empty tape", x.read(), 0);
        Check.due("HOUSES", x.count(0), 0);
        Check.due("the night", x.count(1), 0);
        Check.due("FINE", x.count(6), 10);
        Check.due("read of blanks alone", Check.read(x, " \t\r\n"), 0);
    }

    private static void placeOfTheLatestRead() {
        Check.sentence("promise 5: The byte of the latest read()'s FAULT; NONE without.");
        WhichBin x = new WhichBin();
        Check.due("place() without a read()", x.place(), NONE);
        Check.read(x, "");
        Check.due("place() of a good one", x.place(), NONE);
        Check.read(x, "  x");
        Check.due("place()", x.place(), 2);
        Check.feed(x, "fine 7; ;");
        x.back(0);
        x.nights(1);
        x.undo();
        Check.due("place() till the next read()", x.place(), 2);
        x.read();
        Check.due("place()", x.place(), 8);
        Check.read(x, "");
        Check.due("place() without", x.place(), NONE);
        Check.read(x, "x");
        Check.due("place() of the first byte", x.place(), 0);
    }

    private static void bytesOfAText() {
        Check.sentence("A TEXT has 2,000 bytes at most.");
        WhichBin x = new WhichBin();
        Check.feed(x, " ".repeat(1993) + "fine 7;");
        Check.due("count(8)", x.count(8), 2000);
        Check.due("read()", x.read(), 0);
        Check.due("FINE", x.count(6), 7);
        Check.fault("fine 7;" + " ".repeat(1992) + "x", 1, 1999);
        Check.fault("fine 7;" + " ".repeat(1989) + "fine", 1, 2000);
        Check.fault("fine" + " ".repeat(1996), 1, 2000);
        Check.fault(" ".repeat(1992) + "fine 31;", 5, 1997);
    }

    private static void blanks() {
        Check.sentence("with blanks (9, 10, 13, 32) between or not");
        for (int sign = 0; sign < 256; sign++) {
            boolean blank = sign == 9 || sign == 10 || sign == 13 || sign == 32;
            WhichBin x = new WhichBin();
            Check.due("read of byte " + sign, Check.read(x, "" + (char) sign), blank ? 0 : 1);
            Check.due("place of byte " + sign, x.place(), blank ? NONE : 0);
        }
        char[] some = {9, 10, 13, 32};
        for (char blank : some) {
            String text = "house a 5 0 = ( 1 ) ; fine 7 ;".replace(' ', blank);
            Check.due("FINE", Check.with(text + blank).count(6), 7);
        }
        Check.with("house a5 0own;house b5 0as a;house c5 0=if 1<2then 3else(1);seed7;");
        Check.with("  \t\r\n house \n\n\n a\t\t5\r\r0 own\n;\n");
        Check.with("seed7;seed8;");
    }

    private static void allElseIsNoToken() {
        Check.sentence("all else is no TOKEN");
        for (int sign = 0; sign < 256; sign++) {
            boolean blank = sign == 9 || sign == 10 || sign == 13 || sign == 32;
            boolean letter = sign >= 'a' && sign <= 'z';
            boolean digit = sign >= '0' && sign <= '9';
            WhichBin x = new WhichBin();
            int fault = Check.read(x, "seed" + (char) sign + "7;");
            Check.due("byte " + sign + " between", fault, blank || digit ? 0 : 1);
            // a letter is of the same TOKEN, which is a NAME then
            Check.due("its place", x.place(), fault == 0 ? NONE : letter ? 0 : 4);
        }
        String[] others = {"A", "Z", "_", ".", ",", ">", "%", "'", "\"", "{", "\u0000", "\u0008", "\u000b", "\u000c",
            "\u007f", "\u0080", "\u00a0", "\u00e9", "\u00ff", "`", "@", "[", "/*", "#"};
        for (String other : others) {
            Check.fault("house a" + other + OWN, 1, 7);
            Check.fault("seed 7;" + other, 1, 7);
        }
    }

    private static void longestTokens() {
        Check.sentence("TOKENS, the longest that can be");
        Check.with("house browns5 0own;".replace("browns", "brownss"));
        Check.fault("house browns 5 0 own;", 1, 6);
        Check.fault("houses a 5 0 own;", 1, 0);
        Check.fault("house a 5 0 owns;", 1, 12);
        Check.fault("brown7own;", 1, 6);
        Check.fault("house a 5 0 asb;", 1, 12);
        Check.fault(LAW + "signsign;", 1, 14);
        Check.fault(LAW + "1 2;", 1, 16);
        // digits and letters are of two TOKENS
        WhichBin x = Check.with("house a1 2own;");
        Check.due("SURE", x.house(0, 1), 1);
        x = Check.with("house a1 2own;house b10 2as a;fine 30;");
        Check.due("SURE", x.house(1, 1), 10);
        Check.fault("house a 50 own;", 1, 11);
    }

    private static void names() {
        Check.sentence("NAMES (letters a .. z, 8 at most)");
        for (char letter = 'a'; letter <= 'z'; letter++) {
            Check.with("house " + letter + OWN);
            Check.with("house " + ("" + letter).repeat(8) + OWN);
            Check.fault("house " + ("" + letter).repeat(9) + OWN, 1, 6);
            Check.fault("house " + ("" + letter).repeat(500) + OWN, 1, 6);
        }
        Check.fault("house A" + OWN, 1, 6);
        Check.fault("house aB" + OWN, 1, 7);
        Check.fault("house a5b" + OWN, 1, 8);
        // names that are alike but for one letter, or but for their length, are two
        WhichBin x = Check.with("house abcdefgh" + OWN + "house abcdefg" + OWN + "house abcdefgz" + OWN
                + "house bbcdefgh" + OWN + "house a" + OWN + "house aa" + OWN);
        Check.due("HOUSES", x.count(0), 6);
        Check.due("read", Check.read(x, "house z" + OWN + "house az" + OWN + "house a" + OWN + "house b 5 0 as a;"), 0);
        Check.puts(x, 3, Check.row(0, 0, 1), 1, 1);
    }

    private static void namesAreNoWords() {
        Check.sentence("none of the words in quotes");
        for (String word : WORDS) {
            Check.fault("house " + word + OWN, 1, 6);
            Check.fault("house a" + OWN + "house b 5 0 as " + word + ";", 1, 16 + 15);
            if (word.length() < 8) {
                Check.with("house " + word + "x" + OWN);
                Check.with("house x" + word + OWN);
            }
            String shorter = word.substring(0, word.length() - 1);
            if (!shorter.equals("brown")) {
                Check.with("house " + shorter + OWN);
            }
        }
        // these are words of the document, but of no text
        String[] others = {"blue", "bin", "other", "law", "none", "wrong", "fewest", "night", "bins"};
        for (String other : others) {
            Check.with("house " + other + OWN);
        }
    }

    private static void ints() {
        Check.sentence("INTS (1 to 4 digits)");
        Check.due("one digit", Check.with("fine 0;").count(6), 0);
        Check.due("two digits", Check.with("fine 07;").count(6), 7);
        Check.due("three digits", Check.with("fine 030;").count(6), 30);
        Check.due("four digits", Check.with("fine 0029;").count(6), 29);
        Check.due("four noughts", Check.with("fine 0000;").count(6), 0);
        Check.fault("fine 00007;", 1, 5);
        Check.fault("fine " + "0".repeat(500) + ";", 1, 5);
        Check.fault("fine 99999;", 1, 5);
        Check.fault("fine 4294967296;", 1, 5);
        Check.fault("house a 00005 0 own;", 1, 8);
        Check.fault("house a 5 00000 own;", 1, 10);
        Check.fault("seed 10000;", 1, 5);
        Check.fault(LAW + "12345;", 1, 14);
        Check.fault("fine -1;", 1, 5);
        Check.fault("fine +1;", 1, 5);
        Check.fault("fine a;", 1, 5);
        Check.fault("fine ;", 1, 5);
    }

    private static void signs() {
        Check.sentence("SIGNS ; = + - * / < ( )");
        Check.with(LAW + "if(1+2-3*4/5)<6then 7else 8;");
        char[] all = {';', '=', '+', '-', '*', '/', '<', '(', ')'};
        for (char sign : all) {
            Check.fault("" + sign, 1, 0);
            Check.fault("house " + sign, 1, 6);
            Check.fault("house a " + sign, 1, 8);
            Check.fault("seed " + sign, 1, 5);
            boolean opens = sign == '(';
            Check.fault(LAW + sign, 1, opens ? 15 : 14);
            boolean goesOn = "+-*/".indexOf(sign) >= 0;
            Check.fault(LAW + "1" + sign + "<", 1, goesOn ? 16 : sign == ';' ? 16 : 15);
        }
    }

    private static String houses(int n) {
        StringBuilder text = new StringBuilder();
        for (int i = 0; i < n; i++) {
            text.append("house ").append((char) ('a' + i)).append(OWN);
        }
        return text.toString();
    }

    private static void housesAtMost() {
        Check.sentence("HOUSES, 6 at most");
        for (int n = 0; n <= 6; n++) {
            WhichBin x = Check.with(houses(n));
            Check.due("HOUSES", x.count(0), n);
            Check.due("the last one", x.house(n - 1, 0), n - 1);
            Check.due("one more", x.house(n, 0), NONE);
        }
    }

    private static void numbersAtTheirBounds() {
        Check.sentence("SURE 0 .. 10; SEES 0 .. 6; BROWN 0 .. 10, FINE 0 .. 30, BOTH 0 .. 30, LEAFLET 0 .. 999,"
                + " SEED 0 .. 9999");
        Check.due("SURE 0", Check.with("house a 0 0 own;").house(0, 1), 0);
        Check.due("SURE 10", Check.with("house a 10 0 own;").house(0, 1), 10);
        Check.fault("house a 11 0 own;", 5, 8);
        Check.with("house a 5 6 own;");
        Check.fault("house a 5 7 own;", 5, 10);
        int[] whats = {5, 6, 7, 12};
        int[] most = {10, 30, 30, 999};
        String[] words = {"brown ", "fine ", "both ", "leaflet "};
        for (int i = 0; i < 4; i++) {
            Check.due(words[i] + 0, Check.with(words[i] + "0;").count(whats[i]), 0);
            Check.due(words[i] + most[i], Check.with(words[i] + most[i] + ";").count(whats[i]), most[i]);
            Check.fault(words[i] + (most[i] + 1) + ";", 5, words[i].length());
            Check.fault(words[i] + "9999;", 5, words[i].length());
        }
        Check.with("seed 0;seed 9999;");
    }

    private static void whatIsNotTold() {
        Check.sentence("BROWN (5), FINE (10), BOTH (5), LEAFLET (3), SEED (0)");
        String street = "house a 5 0 own;house b 6 0 own;house c 7 0 two;";
        WhichBin x = Check.with("brown 1;fine 2;both 3;leaflet 4;seed 5;");
        Check.due("read", Check.read(x, "brown 6;fine 7;both 8;leaflet 9;seed 10;"), 0);
        Check.due("read", Check.read(x, street), 0);
        Check.due("BROWN", x.count(5), 5);
        Check.due("FINE", x.count(6), 10);
        Check.due("BOTH", x.count(7), 5);
        Check.due("LEAFLET", x.count(12), 3);
        WhichBin y = Check.with(street + "brown 5;fine 10;both 5;leaflet 3;seed 0;");
        for (int i = 0; i < 20; i++) {
            x.nights(1);
            y.nights(1);
            Check.due("night by SEED 0", x.night(0), y.night(0));
            Check.due("sign of a by SEED 0", x.house(0, 5), y.house(0, 5));
        }
        Check.due("COINS", x.count(2), y.count(2));
    }

    private static void theLastOne() {
        Check.sentence("the last one");
        WhichBin x = Check.with("brown 1;brown 2;fine 3;fine 4;both 5;both 6;leaflet 7;leaflet 8;seed 9;seed 5000;"
                + "house a 10 0 own;brown 10;");
        Check.due("BROWN", x.count(5), 10);
        Check.due("FINE", x.count(6), 4);
        Check.due("BOTH", x.count(7), 6);
        Check.due("LEAFLET", x.count(12), 8);
        Check.due("read", Check.read(x, "seed 9;brown 0;brown 9;brown 4;seed 5000;seed 1;"), 0);
        // LOT 10 of SEED 1, night by night: 4 9 4 1
        int[] browns = {0, 0, 0, 1};
        for (int brown : browns) {
            x.nights(1);
            Check.due("night by SEED 1", x.night(0), brown);
        }
        // a number that another one stands behind may not be WRONG either
        Check.fault("brown 11;brown 4;", 5, 6);
    }

    private static void asTheyStand() {
        Check.sentence("HOUSES, numbered from 0 on as they stand; at first HOUSE 0 is at PLACE 0, and so on");
        WhichBin x = Check.with("house f 1 0 own;seed 1;house b 2 0 most;house e 3 0 first;house a 4 0 as e;"
                + "house d 5 0 wise;house c 6 0 two;");
        for (int house = 0; house < 6; house++) {
            Check.due("PLACE", x.house(house, 0), house);
            Check.due("SURE", x.house(house, 1), house + 1);
            Check.due("HABIT", x.house(house, 2), house);
        }
        Check.due("as e", x.puts(3, false, Check.row(0, 0, 1)), 1);
    }

    private static void firstByPlace() {
        Check.sentence("FAULTS of a text, the first by its place, of one place the least");
        Check.fault("seed x; house", 1, 5);
        Check.fault(houses(6) + "house x; seed", 2, 96);
        Check.fault("seed x;" + houses(7), 1, 5);
        Check.fault(LAW + "(((((((1", 2, 20);
        Check.fault(LAW + "((((((x(", 1, 20);
        Check.fault("seed 7;".repeat(133) + "x x", 1, 931);
        Check.fault("seed 7;".repeat(133) + "seed x", 1, 936);
        Check.fault("seed 7;".repeat(133) + "seed 77777", 1, 936);
        Check.fault("seed 7;".repeat(133) + "seed .", 1, 936);
        Check.fault("seed 7;".repeat(133) + "seed 7 7", 2, 936);
    }

    private static void syntaxAtTheEnd() {
        Check.sentence("the text's end: its length");
        String whole = "house a 5 0 own;house b 5 0 as a;house c 5 0 = if ( 1 + sign ) < 2 then 3 * 4 else 5 / 6;"
                + "brown 1;fine 1;both 1;leaflet 1;seed 1;";
        String[] tokens = whole.replace(";", " ; ").trim().split("\\s+");
        StringBuilder ahead = new StringBuilder();
        for (String token : tokens) {
            ahead.append(token).append(' ');
            if (!token.equals(";")) {
                Check.fault(ahead.toString(), 1, ahead.length());
                Check.fault(ahead.toString().trim(), 1, ahead.length() - 1);
                Check.fault(ahead + " \n\n", 1, ahead.length() + 3);
            }
        }
        Check.with(ahead.toString());
        Check.with(whole);
    }

    private static void syntaxAtAToken() {
        Check.sentence("1 SYNTAX: a TOKEN, or what is none, with which no text goes on");
        String whole = "house a 5 0 own;house b 5 0 as a;house c 5 0 = if ( 1 + sign ) < 2 then 3 * 4 else 5 / 6;"
                + "brown 1;fine 1;both 1;leaflet 1;seed 1;";
        String[] tokens = whole.replace(";", " ; ").trim().split("\\s+");
        StringBuilder ahead = new StringBuilder();
        for (String token : tokens) {
            // no text goes on with these anywhere
            Check.fault(ahead + "abcdefghi", 1, ahead.length());
            Check.fault(ahead + "12345", 1, ahead.length());
            Check.fault(ahead + "?" + token, 1, ahead.length());
            ahead.append(token).append(' ');
        }
        Check.fault("house a 5 0 as 1;", 1, 15);
        Check.fault("house a 5 0;", 1, 11);
        Check.fault("house a 5 0 own most;", 1, 16);
        Check.fault("house a 5 0 fewest;", 1, 12);
        Check.fault("blue 5;", 1, 0);
        Check.fault("own;", 1, 0);
        Check.fault(LAW + "if 1 = 2 then 3 else 4;", 1, 19);
        Check.fault(LAW + "if 1 < 2 < 3 then 3 else 4;", 1, 23);
        Check.fault(LAW + "if 1 < 2 then 3;", 1, 29);
        Check.fault(LAW + "1 else 2;", 1, 16);
        Check.fault(LAW + "1 if 2;", 1, 16);
        Check.fault(LAW + "a;", 1, 14);
        Check.fault(LAW + "own;", 1, 14);
        Check.fault(LAW + "- 1;", 1, 14);
        Check.fault(LAW + "1 + - 1;", 1, 18);
        Check.fault(LAW + "1 * / 1;", 1, 18);
        Check.fault(LAW + "( ) ;", 1, 16);
        Check.fault(LAW + "( 1 ;", 1, 18);
        Check.fault(LAW + "1 ) ;", 1, 16);
        Check.fault(LAW + "( 1 < 2 );", 1, 18);
        Check.fault(LAW + "(if 1 < 2 then 3 else 4);", 1, 15);
        Check.fault(LAW + "if 1 < (2 then 3 else 4);", 1, 24);
    }

    private static void tokensAtMost() {
        Check.sentence("2 ROOM: a 401st TOKEN");
        String settings = "seed 7;".repeat(131);
        // 393 TOKENS and 7 are 400
        WhichBin x = Check.with(settings + "house a 5 0 = 1 ;");
        Check.due("HOUSES", x.count(0), 1);
        Check.with("seed 7;".repeat(130) + "fine 8;house a 5 0 = 1;");
        Check.fault(settings + "house a 5 0 = 1 ; fine 7;", 2, 917 + 18);
        Check.fault(settings + "house a 5 0 = 1 + 1;", 2, 917 + 18);
        Check.fault(settings + "house a 5 0 = ( 1 ) ;", 2, 917 + 18);
        Check.fault(settings + "house a 5 0 = 1 * (", 2, 917 + 18);
        Check.fault(settings + "house a 5 0 = if 1 <", 2, 917 + 19);
        Check.fault(settings + "house a 5 0 = 1 + abcdefghi", 1, 917 + 18);
        Check.fault(settings + "house a 5 0 = 1 ; ?", 1, 917 + 18);
        Check.fault(settings + "house a 5 0 = 1 +", 1, 917 + 17);
        Check.fault(settings + "house a 5 0 = 1 ; house", 2, 917 + 18);
        Check.fault(settings + "house a 5 0 = 1 ; own", 1, 917 + 18);
        Check.fault("seed 7;".repeat(200), 2, 133 * 7 + 5);
        String ones = "1" + "+1".repeat(196);
        Check.with(LAW + ones + " ;");
        Check.fault(LAW + ones + "+ ", 1, 14 + 393 + 2);
        Check.fault(LAW + "-" + ones, 1, 14);
        Check.fault(LAW + ones + "+1;", 2, 14 + 394 + 1);
        // a WRONG number at the 401st TOKEN is ROOM, as the others are
        Check.fault("seed 7;".repeat(133) + "fine 31", 2, 931 + 5);
        Check.fault("house a 5 0 own;" + settings + "house", 1, 16 + 917 + 5);
        Check.fault("house a 5 0 own;" + settings + "house a", 2, 16 + 917 + 6);
        Check.fault("house a 5 0 own;" + settings + "house a 5 0 own;", 2, 16 + 917 + 6);
        Check.fault("house a 5 0 own;" + settings + "house 5", 1, 16 + 917 + 6);
    }

    private static void seventhHouse() {
        Check.sentence("2 ROOM: a 7th house (at its first TOKEN)");
        Check.fault(houses(7), 2, 96);
        Check.fault(houses(6) + "seed 7; \n house g 5 0 own;", 2, 106);
        Check.fault(houses(6) + "house", 2, 96);
        Check.fault(houses(6) + "house house", 2, 96);
        Check.fault(houses(6) + "house a 11 7 as x;", 2, 96);
        Check.fault(houses(6) + "houses", 1, 96);
        Check.with(houses(6) + "seed 7;");
    }

    private static void fifthIf() {
        Check.sentence("2 ROOM: a 5th if of a LAW (at it)");
        String one = "if 1 < 2 then 3 else ";
        for (int ifs = 0; ifs <= 4; ifs++) {
            Check.with(LAW + one.repeat(ifs) + "1;");
        }
        Check.fault(LAW + one.repeat(5) + "1;", 2, 14 + 84);
        Check.fault(LAW + one.repeat(9) + "1;", 2, 14 + 84);
        Check.fault(LAW + one.repeat(4) + "if", 2, 14 + 84);
        Check.fault(LAW + one.repeat(4) + "1 + if", 1, 14 + 84 + 4);
        // each LAW has its own
        Check.with(LAW + one.repeat(4) + "1;house b 5 0 = " + one.repeat(4) + "1;");
    }

    private static void seventhWithinOneAnother() {
        Check.sentence("2 ROOM: a 7th ( within one another (at it)");
        Check.with(LAW + "((((((1))))));");
        Check.fault(LAW + "(((((((1)))))));", 2, 20);
        Check.fault(LAW + "(((((((", 2, 20);
        Check.fault(LAW + "((((((((((", 2, 20);
        Check.fault(LAW + "( ( ( ( ( ( (", 2, 26);
        Check.fault(LAW + "1+(2*(3-(4/(5+(6*(7-(8", 2, 14 + 20);
        Check.with(LAW + "((((((1)+(2)*(3))))));");
        Check.fault(LAW + "((((((1)+(2)*((3))))))", 2, 14 + 14);
        Check.with(LAW + "(((((1)+(2)*((3))))));");
        Check.with(LAW + "((((((1))))))+((((((1))))))*((((((1))))));");
        Check.with(LAW + "if((((((1))))))<((((((1))))))then((((((1))))))else((((((1))))));");
        Check.fault(LAW + "if 1<(((((((1)))))))then 1 else 1;", 2, 14 + 5 + 6);
    }

    private static void ifThereIsNone() {
        Check.sentence("If there is none, likewise: 3, 4, 5");
        Check.fault("house a 11 7 as x;brown 11;seed", 1, 31);
        Check.fault("house a 11 0 own;" + houses(6), 2, 17 + 80);
        Check.fault("brown 11;" + LAW + "(((((((1;", 2, 9 + 20);
        Check.fault("fine 31;" + "seed 7;".repeat(133), 2, 8 + 132 * 7 + 5);
        Check.fault("house a 11 7 as x;", 5, 8);
        Check.fault("house a 10 7 as x;", 5, 11);
        Check.fault("house a 10 6 as x;", 4, 16);
        Check.fault("house a 5 0 own;house a 11 0 own;", 3, 22);
        Check.fault("house a 5 0 own;house b 5 0 as c;house a 5 0 own;", 4, 31);
        Check.fault("house a 5 0 own;house a 5 0 as c;", 3, 22);
        Check.fault("fine 31;house a 5 0 own;house a 5 0 own;", 5, 5);
    }

    private static void twice() {
        Check.sentence("3 TWICE: a NAME told already");
        Check.fault("house a 5 0 own;house a 5 0 own;", 3, 22);
        Check.fault("house abcdefgh 5 0 own;house b 5 0 own; house abcdefgh 6 1 two;", 3, 46);
        Check.fault(houses(5) + "house e 5 0 own;", 3, 86);
        Check.with("house a 5 0 own;house b 5 0 as a;house c 5 0 as a;");
        // a text has names of its own
        WhichBin x = Check.with("house a 5 0 own;");
        Check.due("read", Check.read(x, "house a 5 0 own;"), 0);
    }

    private static void nameNotToldAhead() {
        Check.sentence("4 NAME: (at it) no such HOUSE told ahead (not itself)");
        Check.fault("house a 5 0 as b;", 4, 15);
        Check.fault("house a 5 0 as a;", 4, 15);
        Check.fault("house a 5 0 as b;house b 5 0 own;", 4, 15);
        Check.fault("house a 5 0 own;house b 5 0 as b;", 4, 31);
        Check.fault("house ab 5 0 own;house b 5 0 as a;", 4, 32);
        Check.fault(houses(5) + "house f 5 0 as f;", 4, 95);
        Check.with(houses(5) + "house f 5 0 as e;");
        Check.with(houses(5) + "house f 5 0 as a;");
        // nor one of the text ahead, or of one with a fault
        WhichBin x = Check.with("house a 5 0 own;");
        Check.due("read", Check.read(x, "house b 5 0 as a;"), 4);
        Check.due("read", Check.read(x, "house c 5 0 own; x"), 1);
        Check.due("read", Check.read(x, "house b 5 0 as c;"), 4);
    }

    private static void wrongInts() {
        Check.sentence("5 WRONG (at the INT): a number not as told above");
        Check.fault("house a 11 0 own;", 5, 8);
        Check.fault("house a 9999 0 own;", 5, 8);
        Check.fault("house a 10 7 own;", 5, 11);
        Check.fault("house a 10 9999 own;", 5, 11);
        Check.fault("house  a  0011\n0 own;", 5, 10);
        Check.fault("brown 11;", 5, 6);
        Check.fault("fine 31;", 5, 5);
        Check.fault("both 31;", 5, 5);
        Check.fault("leaflet 1000;", 5, 8);
        Check.fault("brown 10;fine 30;both 30;leaflet 999;seed 9999;house a 10 6 own;brown11;", 5, 69);
    }

    private static void intsOfLawsAreNeverWrong() {
        Check.sentence("UNIT: INT, of 1 to 4 digits");
        WhichBin x = Check.with("house a 5 0 = 9999 - 9998;house b 5 0 = 0000;house c 5 0 = 0009 / 9;");
        Check.puts(x, 0, 0, 1, 1);
        Check.puts(x, 1, 0, 0, 0);
        Check.puts(x, 2, 0, 1, 1);
    }

    /** All that a text could change, in one number. */
    private static long all(WhichBin x) {
        long all = 0;
        for (int what = 0; what <= 12; what++) {
            all = all * 31 + x.count(what);
        }
        for (int house = 0; house < 6; house++) {
            for (int what = 0; what <= 6; what++) {
                all = all * 31 + x.house(house, what);
            }
            all = all * 31 + x.puts(house, true, 121);
            all = all * 31 + x.chance(house, false);
            all = all * 31 + x.chance(house, true);
            all = all * 31 + x.fits(house, x.count(10));
        }
        for (int what = 0; what <= 2; what++) {
            all = all * 31 + x.night(what);
        }
        return all * 31 + x.year(20, 10);
    }

    private static void faultChangesNothing() {
        Check.sentence("A text with a FAULT changes nothing but the tape");
        String[] faults = {"x", "brown 11;", "house a 1 1 = 1;house a 2 2 two;", "house b 3 3 as z;",
            "house z 0 0 = 9 - lead;" + houses(6), LAW + "(((((((", "fine 1;seed 7;".repeat(67)};
        for (String fault : faults) {
            changesNothing(fault);
        }
    }

    private static void changesNothing(String fault) {
        WhichBin x = Check.with("house a 6 0 own;house b 7 2 most;house c 8 3 = browns - 1;house d 5 6 wise;seed 44;"
                + "leaflet 9;brown 4;fine 8;both 2;");
        x.leaflet(1, true);
        x.nights(3);
        x.hold(0);
        x.swap(0, 2);
        x.habit(3, 5);
        x.tell(0, true, 2, 1, false, true);
        long before = all(x);
        Check.due("a fault", Check.read(x, fault) > 0, true);
        Check.due("all things after " + fault, all(x), before);
        Check.due("what a SLOT holds", x.restore(0), true);
        Check.due("the night", x.count(1), 3);
        Check.due("PLACE", x.house(0, 0), 0);
        Check.due("LEAFLETS", x.count(3), 2);
        x.swap(0, 2);
        Check.due("read", Check.read(x, fault) > 0, true);
        Check.due("undo()", x.undo(), true);
        Check.due("PLACE", x.house(0, 0), 0);
    }

    private static void inPlaceOfTheOneAhead() {
        Check.sentence("else it is in place of the one ahead: night 0, no bins out, no LEAFLETS, PLACES as told, no COINS"
                + " paid, nothing can be undone, nothing is TOLD, SLOTS hold nothing");
        String text = "house a 6 0 own;house b 7 2 most;house c 8 3 = browns - 1;house d 5 6 wise;seed 44;leaflet 9;";
        WhichBin x = Check.with(text);
        long before = all(x);
        x.nights(40);
        Check.due("some are WRONG", x.count(4) > 0 && x.house(0, 6) > 0 && x.house(1, 6) > 0, true);
        for (int slot = 0; slot < 3; slot++) {
            x.leaflet(slot, true);
            x.nights(9);
            x.hold(slot);
        }
        x.swap(0, 2);
        x.habit(1, 5);
        x.tell(0, true, 2, 1, false, true);
        Check.due("read of the same text", Check.read(x, text), 0);
        Check.due("the night", x.count(1), 0);
        Check.due("no bins out", x.house(0, 4), -2);
        Check.due("no signs", x.house(0, 5), -2);
        Check.due("no NIGHT", x.night(1), -2);
        Check.due("no fence", x.fence(1), -2);
        Check.due("LEAFLETS", x.count(3), 0);
        for (int house = 0; house < 4; house++) {
            Check.due("PLACE", x.house(house, 0), house);
            Check.due("WRONGS", x.house(house, 6), 0);
        }
        Check.due("HABIT as told", x.house(1, 2), 1);
        Check.due("habit NONE is set", x.habit(1, NONE), false);
        Check.due("COINS", x.count(2), 0);
        Check.due("all WRONGS", x.count(4), 0);
        Check.due("things that can be undone", x.count(9), 0);
        Check.due("undo()", x.undo(), false);
        Check.due("TOLD", x.count(10), 0);
        Check.due("SLOTS", x.count(11), 0);
        for (int slot = 0; slot < 3; slot++) {
            Check.due("restore(" + slot + ")", x.restore(slot), false);
        }
        Check.due("all things", all(x), before);
    }
}
