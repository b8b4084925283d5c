/** What the tests share: answers held against what is due, and texts fed as bytes. */
final class Check {
    private static int wrong = 0;
    private static String sentence = "";
    private static String also = "";

    private Check() {
    }

    /** The document's sentence that the answers from here on are about; it is told with each wrong one. */
    static void sentence(String words) {
        sentence = "\"" + words + "\": ";
        also = "";
    }

    /** What else is told with each wrong answer, till the next sentence. */
    static void sentenceAlso(String words) {
        also = words + ": ";
    }

    static void due(String call, long got, long want) {
        if (got != want) {
            wrong++;
            if (wrong <= 50) {
                System.out.println(sentence + also + call + " answered " + got + ", due is " + want);
            }
        }
    }

    static void due(String call, boolean got, boolean want) {
        due(call, got ? 1 : 0, want ? 1 : 0);
    }

    static void finish(String test) {
        System.out.println(test + ": " + (wrong == 0 ? "all answers are as due" : wrong + " answers are not as due"));
        if (wrong != 0) {
            System.exit(1);
        }
    }

    /** The five numbers of a feed() that begins at this byte; blanks behind the text's end. */
    static int[] words(String text, int from) {
        int[] words = new int[5];
        for (int i = 0; i < 20; i++) {
            int sign = from + i < text.length() ? text.charAt(from + i) : ' ';
            words[i / 4] = words[i / 4] << 8 | sign & 255;
        }
        return words;
    }

    static void feed(WhichBin x, String text) {
        for (int from = 0; from < text.length(); from += 20) {
            int[] w = words(text, from);
            x.feed(w[0], w[1], w[2], w[3], w[4]);
        }
        x.back((20 - text.length() % 20) % 20);
    }

    static int read(WhichBin x, String text) {
        feed(x, text);
        return x.read();
    }

    /** A new object that has read a text without a fault. */
    static WhichBin with(String text) {
        WhichBin x = new WhichBin();
        due("read of " + shortened(text), read(x, text), 0);
        return x;
    }

    private static String shortened(String text) {
        return text.length() <= 150 ? text : text.substring(0, 50) + " .. " + text.substring(text.length() - 50);
    }

    static void fraction(String call, int above, int below, int wantAbove, int wantBelow) {
        due(call + " above the line", above, wantAbove);
        due(call + " below the line", below, wantBelow);
    }

    /** A text with a fault, and the fault's place. */
    static void fault(String text, int number, int place) {
        WhichBin x = new WhichBin();
        String call = shortened(text);
        due("read of " + call, read(x, text), number);
        due("place of " + call, x.place(), place);
        due("tape after " + call, x.count(8), 0);
    }

    /** The number of a row of bins, PLACE by PLACE. */
    static int row(int... bins) {
        int row = 0;
        for (int place = bins.length - 1; place >= 0; place--) {
            row = 3 * row + bins[place];
        }
        return row;
    }

    /** What a house puts out with a brown and with a blue sign. */
    static void puts(WhichBin x, int house, int row, int ifBrown, int ifBlue) {
        due("puts(" + house + ", true, " + row + ")", x.puts(house, true, row), ifBrown);
        due("puts(" + house + ", false, " + row + ")", x.puts(house, false, row), ifBlue);
    }
}
