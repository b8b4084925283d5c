/** Promises 1 to 5: a new object, the tape, texts and their faults. */
public final class TextTest {
    public static void main(String[] args) {
        newObject();
        tape();
        goodTexts();
        names();
        syntax();
        room();
        laterFaults();
        whichFaultIsTold();
        textInPlaceOfTheOneAhead();
        Check.finish("TextTest");
    }

    private static void newObject() {
        WhichBin x = new WhichBin();
        int[] counts = {0, 0, 0, 0, 0, 5, 10, 5, 0, 0, 0, 0, 3};
        for (int what = 0; what < counts.length; what++) {
            Check.due("new count(" + what + ")", x.count(what), counts[what]);
        }
        Check.due("new place()", x.place(), WhichBin.NONE);
        Check.due("new undo()", x.undo(), false);
        Check.due("new forget()", x.forget(), 0);
        Check.due("new read()", x.read(), 0);
    }

    private static void tape() {
        WhichBin x = new WhichBin();
        Check.due("back(0)", x.back(0), 0);
        Check.due("back(1)", x.back(1), WhichBin.NONE);
        for (int i = 1; i <= 100; i++) {
            Check.due("feed " + i, x.feed(0x20202020, 0x09202020, 0x200a2020, 0x2020200d, 0x20202020), 20 * i);
        }
        Check.due("feed behind 2000", x.feed(0, 0, 0, 0, 0), WhichBin.NONE);
        Check.due("count(8)", x.count(8), 2000);
        Check.due("back(-1)", x.back(-1), WhichBin.NONE);
        Check.due("back(2001)", x.back(2001), WhichBin.NONE);
        Check.due("back(2^31-1)", x.back(Integer.MAX_VALUE), WhichBin.NONE);
        Check.due("back(-2^31)", x.back(Integer.MIN_VALUE), WhichBin.NONE);
        Check.due("back(1)", x.back(1), 1999);
        Check.due("feed behind 1999", x.feed(0, 0, 0, 0, 0), WhichBin.NONE);
        Check.due("back(18)", x.back(18), 1981);
        Check.due("feed behind 1981", x.feed(0, 0, 0, 0, 0), WhichBin.NONE);
        Check.due("back(1)", x.back(1), 1980);
        Check.due("feed at 1980", x.feed(0x20202020, 0x20202020, 0x20202020, 0x20202020, 0x20202020), 2000);
        Check.due("read of blanks", x.read(), 0);
        Check.due("tape after read", x.count(8), 0);
        // the highest byte comes first, and a byte above 127 is no token
        x.feed('s' << 24 | 'e' << 16 | 'e' << 8 | 'd', ' ' << 24 | '7' << 16 | ';' << 8 | 0xff, 0, 0, 0);
        Check.due("read", x.read(), 1);
        Check.due("place", x.place(), 7);
        x.feed('s' << 24 | 'e' << 16 | 'e' << 8 | 'd', ' ' << 24 | '7' << 16 | ';' << 8 | ' ', 0, 0, 0);
        x.back(12);
        Check.due("read", x.read(), 0);
    }

    private static void goodTexts() {
        WhichBin x = Check.with("brown 3;fine 30;both 0;leaflet 999;seed 9999;brown 10;fine 0;both 30;leaflet 0;");
        Check.due("BROWN", x.count(5), 10);
        Check.due("FINE", x.count(6), 0);
        Check.due("BOTH", x.count(7), 30);
        Check.due("price of a leaflet", x.count(12), 0);
        x = Check.with("fine 7;both 8;leaflet 12;brown 0;");
        Check.due("BROWN", x.count(5), 0);
        Check.due("FINE", x.count(6), 7);
        Check.due("BOTH", x.count(7), 8);
        Check.due("price of a leaflet", x.count(12), 12);
        x = Check.with("house a 10 6 own;house bb 0 0 most;house c 0005 3 first;house d 4 5 as bb;house e 9 1 wise;"
                + "house f 1 2 two;");
        int[] sure = {10, 0, 5, 4, 9, 1};
        for (int house = 0; house < 6; house++) {
            Check.due("SURE of " + house, x.house(house, 1), sure[house]);
            Check.due("HABIT of " + house, x.house(house, 2), house);
        }
        // names and numbers need no blanks between; words of texts can be the beginning of names
        x = Check.with("house a5 6own;house\tb10\r2two;\nhouse owns 3 3as a;house abcdefgh 1 1 = 9999;");
        Check.due("HOUSES", x.count(0), 4);
        Check.due("HABIT of 2", x.house(2, 2), 3);
        Check.due("HABIT of 3", x.house(3, 2), 6);
        Check.with("house a 5 0 = if 1 < 2 then 3 else if sign < sure then browns else if lead < number then sees "
                + "else if blues < 0 then 1 else ((((((2))))));");
        Check.with("house a 5 0 = (((((1))))) + ((((((2)))))) * 3;");
    }

    private static void names() {
        String[] words = {"house", "brown", "fine", "both", "leaflet", "seed", "own", "most", "first", "as", "wise",
            "two", "if", "then", "else", "sign", "browns", "blues", "sees", "sure", "number", "lead"};
        for (String word : words) {
            Check.fault("house " + word + " 5 0 own;", 1, 6);
            Check.with("house " + word.substring(0, 1) + "x 5 0 own;");
        }
        Check.with("house blue 5 0 own;");
        WhichBin x = Check.with("house az 5 0 own; house z 5 0 as az; house zzzzzzzz 5 0 as z; house a 5 0 own;");
        Check.due("HOUSES", x.count(0), 4);
        Check.fault("house abcdefghi 5 0 own;", 1, 6);
        Check.fault("house a 5 0 as abcdefghi;", 1, 15);
        Check.fault("house A 5 0 own;", 1, 6);
    }

    private static void syntax() {
        Check.fault("x", 1, 0);
        Check.fault(";", 1, 0);
        Check.fault("  .", 1, 2);
        Check.fault("own;", 1, 0);
        Check.fault("house", 1, 5);
        Check.fault("house  ", 1, 7);
        Check.fault("house a", 1, 7);
        Check.fault("house a 5", 1, 9);
        Check.fault("house a 5 0", 1, 11);
        Check.fault("house a 5 0 own", 1, 15);
        Check.fault("house a 5 0 own own;", 1, 16);
        Check.fault("house a 5 0 sign;", 1, 12);
        Check.fault("house 5 5 0 own;", 1, 6);
        Check.fault("house a b 0 own;", 1, 8);
        Check.fault("house a 5 own;", 1, 10);
        Check.fault("house a 12345 0 own;", 1, 8);
        Check.fault("house a -5 0 own;", 1, 8);
        Check.fault("house a 5 0 as;", 1, 14);
        Check.fault("house a 5 0 as 5;", 1, 15);
        Check.fault("house a 5 0 as own;", 1, 15);
        Check.fault("seed;", 1, 4);
        Check.fault("seed a;", 1, 5);
        Check.fault("seed 12345;", 1, 5);
        Check.fault("seed 1 2;", 1, 7);
        Check.fault("seed 1;;", 1, 7);
        Check.fault("seed 1; \u00a0", 1, 8);
        String law = "house a 5 0 = ";
        Check.fault(law + ";", 1, 14);
        Check.fault(law + "-1;", 1, 14);
        Check.fault(law + "1 2;", 1, 16);
        Check.fault(law + "1 +;", 1, 17);
        Check.fault(law + "(1;", 1, 16);
        Check.fault(law + "1);", 1, 15);
        Check.fault(law + "();", 1, 15);
        Check.fault(law + "(1)(2);", 1, 17);
        Check.fault(law + "a;", 1, 14);
        Check.fault(law + "1 < 2;", 1, 16);
        Check.fault(law + "10000;", 1, 14);
        Check.fault(law + "1 * 12345;", 1, 18);
        Check.fault(law + "if 1 then;", 1, 19);
        Check.fault(law + "if 1 < 2 else;", 1, 23);
        Check.fault(law + "if 1 < 2 then 3;", 1, 29);
        Check.fault(law + "if 1 < 2 then 3 else;", 1, 34);
        Check.fault(law + "(if 1 < 2 then 3 else 4);", 1, 15);
        Check.fault(law + "if 1 < 2 then if 3 < 4 then 5 else 6 else 7;", 1, 28);
        Check.fault(law + "if (1 < 2) then 3 else 4;", 1, 20);
    }

    private static void room() {
        StringBuilder settings = new StringBuilder();
        for (int i = 0; i < 133; i++) {
            settings.append("seed 1;");
        }
        // 399 tokens: one more is the 400th
        Check.fault(settings + "seed", 1, 935);
        Check.fault(settings + "seed 1;", 2, 936);
        Check.fault(settings + "seed +", 1, 936);
        Check.fault(settings + "seed 12345", 1, 936);
        Check.with(settings.toString());
        String ones = "+1".repeat(196);
        Check.with("house a 1 1 = 1" + ones + ";");
        Check.fault("house a 1 1 = 11+1" + ones + ";", 2, 15 + 392 + 3);
        StringBuilder houses = new StringBuilder();
        for (char name = 'a'; name < 'g'; name++) {
            houses.append("house ").append(name).append(" 5 0 own;");
        }
        Check.with(houses.toString());
        Check.fault(houses + " house h 5 0 own;", 2, 97);
        Check.fault(houses + " house 5", 2, 97);
        String ifs = "if 1 < 2 then 3 else ";
        Check.with("house a 5 0 = " + ifs.repeat(4) + "1; house b 5 0 = " + ifs.repeat(4) + "1;");
        Check.fault("house a 5 0 = " + ifs.repeat(5) + "1;", 2, 14 + 4 * 21);
        Check.fault("house a 5 0 = (((((((1)))))));", 2, 20);
        Check.fault("house a 5 0 = 1 + ((((((1)))))) * (2 - ((((((1)))))));", 2, 44);
        Check.with("house a 5 0 = ((((((1)))))) + ((((((1))))));");
    }

    private static void laterFaults() {
        Check.fault("house a 5 0 own;house a 5 0 own;", 3, 22);
        Check.fault("house a 5 0 as a;", 4, 15);
        Check.fault("house a 5 0 as b;house b 5 0 own;", 4, 15);
        Check.fault("house a 11 0 own;", 5, 8);
        Check.fault("house a 5 7 own;", 5, 10);
        Check.fault("brown 11;", 5, 6);
        Check.fault("fine 31;", 5, 5);
        Check.fault("both 31;", 5, 5);
        Check.fault("leaflet 1000;", 5, 8);
        Check.fault("brown 11; brown 5;", 5, 6);
    }

    private static void whichFaultIsTold() {
        Check.fault("brown 11; seed", 1, 14);
        Check.fault("house a 11 0 own; house a 5 0 own;", 5, 8);
        Check.fault("house a 5 0 own; house a 11 0 own;", 3, 23);
        Check.fault("house a 5 0 as b; fine 31;", 4, 15);
        Check.fault("fine 31; house a 5 0 as b;", 5, 5);
        Check.fault("house a 5 0 = (((((((1; x", 2, 20);
        Check.fault("house a 5 0 x = (((((((1;", 1, 12);
        Check.fault("house a 5 0 own; house a 5 0 as x; house b 5 0 = (((((((1))))))); ", 2, 55);
    }

    private static void textInPlaceOfTheOneAhead() {
        WhichBin x = Check.with("house a 8 0 own; house b 6 6 most; brown 7; seed 4;");
        x.leaflet(1, true);
        x.swap(0, 1);
        x.habit(0, 5);
        x.nights(3);
        x.hold(1);
        x.tell(0, true, 1, 1, true, true);
        Check.due("read with a fault", Check.read(x, "seed x;"), 1);
        int[] still = {2, 3, x.count(2), 2, x.count(4), 7, 10, 5, 0, 4, 1, 1, 3};
        for (int what = 0; what < still.length; what++) {
            Check.due("count(" + what + ") after a fault", x.count(what), still[what]);
        }
        Check.due("PLACE of 0 after a fault", x.house(0, 0), 1);
        Check.due("place()", x.place(), 5);
        Check.due("read", Check.read(x, "house a 8 0 own; house b 6 6 most; leaflet 8;"), 0);
        Check.due("place()", x.place(), WhichBin.NONE);
        int[] anew = {2, 0, 0, 0, 0, 5, 10, 5, 0, 0, 0, 0, 8};
        for (int what = 0; what < anew.length; what++) {
            Check.due("count(" + what + ") after a text", x.count(what), anew[what]);
        }
        Check.due("PLACE of 0", x.house(0, 0), 0);
        Check.due("HABIT of 0", x.house(0, 2), 0);
        Check.due("no night yet", x.house(0, 4), -2);
        Check.due("WRONG of 0", x.house(0, 6), 0);
        Check.due("night(0)", x.night(0), -2);
        Check.due("undo()", x.undo(), false);
        Check.due("restore(1)", x.restore(1), false);
        Check.due("habit as at first", x.habit(0, WhichBin.NONE), false);
    }
}
