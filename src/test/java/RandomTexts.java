import java.util.ArrayList;
import java.util.Arrays;
import java.util.List;
import java.util.Random;

/** Texts by lot: most of them without a fault, the others spoilt in one place or two. */
final class RandomTexts {
    private static final String[] NAMES = {"a", "b", "ann", "bob", "houses", "blue", "abcdefgh", "zz", "ow", "ifs"};
    private static final String[] VARS = {"sign", "browns", "blues", "sees", "sure", "number", "lead"};
    private static final String[] PIECES = {"house", "brown", "fine", "both", "leaflet", "seed", "own", "most", "first",
        "as", "wise", "two", "if", "then", "else", "sign", "lead", "a", "b", "abcdefghi", "0", "5", "10", "11", "31",
        "1000", "12345", ";", "=", "+", "-", "*", "/", "<", "(", ")", ".", "A", "\u00e9", "\u0000", ">", "brown 11;"};
    private static final String[] BIG = {"7", "10", "11", "30", "31", "999", "1000", "9999"};
    private static final String BLANKS = " \t\n\r";

    private final Random lots;
    private final List<String> tokens = new ArrayList<>();

    RandomTexts(long seed) {
        lots = new Random(seed);
    }

    private int lot(int n) {
        return lots.nextInt(n);
    }

    private void add(String... more) {
        for (String token : more) {
            tokens.add(token);
        }
    }

    String next() {
        tokens.clear();
        int houses = lot(8) == 0 ? lot(3) : 2 + lot(5);
        for (int i = 0; i < houses; i++) {
            setting();
            house(i);
        }
        if (lot(3) == 0) {
            spoil();
        } else if (lot(4) == 0) {
            spoilNumbersAndNames();
        }
        setting();
        return join();
    }

    /** Faults of number and name alone, which count only where there is no other one. */
    private void spoilNumbersAndNames() {
        for (int i = 0; i < tokens.size(); i++) {
            if (tokens.get(i).matches("[0-9]+") && lot(15) == 0) {
                tokens.set(i, BIG[lot(BIG.length)]);
            }
            if (Arrays.asList(NAMES).contains(tokens.get(i)) && lot(8) == 0) {
                tokens.set(i, NAMES[lot(NAMES.length)]);
            }
        }
    }

    private void setting() {
        switch (lot(9)) {
            case 0:
                add("brown", "" + lot(11), ";");
                break;
            case 1:
                add("fine", "" + lot(31), ";");
                break;
            case 2:
                add("both", "" + lot(31), ";");
                break;
            case 3:
                add("leaflet", "" + lot(1000), ";");
                break;
            case 4:
                add("seed", "" + lot(10000), ";");
                break;
            default:
                break;
        }
    }

    private String name(int house) {
        return NAMES[house];
    }

    private void house(int i) {
        String sees = lot(3) == 0 ? "6" : "" + lot(7);
        add("house", name(i), lot(4) == 0 ? "" + lot(11) : "" + (5 + lot(5)), sees);
        switch (lot(9)) {
            case 0:
                add("own");
                break;
            case 1:
                add("most");
                break;
            case 2:
                add("first");
                break;
            case 3:
                if (i == 0) {
                    add("two");
                } else {
                    add("as", name(lot(i)));
                }
                break;
            case 4:
            case 5:
                add("wise");
                break;
            case 6:
                add("two");
                break;
            default:
                law();
                break;
        }
        add(";");
    }

    private void law() {
        add("=");
        int ifs = lot(2) == 0 ? 0 : lot(9) == 0 ? 5 : lot(5);
        for (int i = 0; i < ifs; i++) {
            add("if");
            sum(2);
            add("<");
            sum(2);
            add("then");
            sum(2);
            add("else");
        }
        sum(3);
    }

    private void sum(int depth) {
        part(depth);
        while (lot(3) == 0) {
            add(lot(2) == 0 ? "+" : "-");
            part(depth);
        }
    }

    private void part(int depth) {
        unit(depth);
        while (lot(3) == 0) {
            add(lot(2) == 0 ? "*" : "/");
            unit(depth);
        }
    }

    private void unit(int depth) {
        int kind = lot(depth > 0 ? 5 : 4);
        if (kind == 0) {
            add(lot(4) == 0 ? "" + lot(10000) : "" + lot(4));
        } else if (kind < 4) {
            add(VARS[lot(VARS.length)]);
        } else if (lot(12) == 0) {
            int open = 4 + lot(4);
            for (int i = 0; i < open; i++) {
                add("(");
            }
            sum(0);
            for (int i = 0; i < open; i++) {
                add(")");
            }
        } else {
            add("(");
            sum(depth - 1);
            add(")");
        }
    }

    private void spoil() {
        for (int i = lot(2); i >= 0 && !tokens.isEmpty(); i--) {
            int at = lot(tokens.size());
            switch (lot(5)) {
                case 0:
                    tokens.remove(at);
                    break;
                case 1:
                    tokens.set(at, PIECES[lot(PIECES.length)]);
                    break;
                case 2:
                    tokens.add(at, PIECES[lot(PIECES.length)]);
                    break;
                case 3:
                    tokens.add(at, tokens.get(lot(tokens.size())));
                    break;
                default:
                    tokens.subList(at, tokens.size()).clear();
                    break;
            }
        }
    }

    private String join() {
        StringBuilder text = new StringBuilder();
        char last = ' ';
        for (String token : tokens) {
            char first = token.charAt(0);
            boolean merge = Character.isLetter(first) && Character.isLetter(last)
                    || Character.isDigit(first) && Character.isDigit(last);
            if (merge || lot(3) == 0) {
                text.append(BLANKS.charAt(lot(BLANKS.length())));
            }
            text.append(token);
            last = token.charAt(token.length() - 1);
        }
        if (lot(4) == 0) {
            text.append(' ');
        }
        return text.length() > 2000 ? text.substring(0, 2000) : text.toString();
    }
}
