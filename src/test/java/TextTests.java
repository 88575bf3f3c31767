import java.util.ArrayList;
import java.util.List;

/** Promises 2 to 4 and THE STREAM's text: each bound of it from both sides, each fault, and which of several comes first. */
public final class TextTests {
    private static final int NONE = -1, OUTSIDE = -1000000002, FULL = -1000000004;
    private static final int CANNOT = 1, NUMBER = 2, TOO_MANY = 3, ALREADY = 4, TOGETHER = 5, NO_PLACE = 6;
    private static final String TO_11 = "place to 11 100;";
    private static final int LENGTH_TO_11 = 16;

    private static int wrong = 0;

    private static void due(String call, int got, int want) {
        if (got != want) {
            wrong++;
            System.out.println(call + " answered " + got + ", due is " + want);
        }
    }

    private static void feedText(SlowerCork x, String text) {
        for (int i = 0; i < text.length(); i += 8) {
            int n = Math.min(8, text.length() - i);
            long bytes = 0;
            for (int k = 0; k < n; k++) {
                bytes = bytes << 8 | text.charAt(i + k) & 255;
            }
            x.feed(n, bytes);
        }
    }

    private static void fine(String text, int places) {
        SlowerCork x = new SlowerCork();
        feedText(x, text);
        due("stream() of '" + text + "'", x.stream(), places);
        due("fault() of '" + text + "'", x.fault(), NONE);
        due("told(0) of '" + text + "'", x.told(0), places);
        due("told(2) behind '" + text + "'", x.told(2), 0);
    }

    private static void faulty(String text, int number, int at) {
        SlowerCork x = new SlowerCork();
        feedText(x, "place to 1 100;place to 2 100;bridge;");
        x.stream();
        feedText(x, text);
        due("stream() of '" + text + "'", x.stream(), -10 - number);
        due("fault() of '" + text + "'", x.fault(), at);
        due("told(0) behind '" + text + "'", x.told(0), 3);
        due("told(2) behind '" + text + "'", x.told(2), 0);
    }

    private static String filled(String text, int length) {
        return text + " ".repeat(length - text.length());
    }

    /** Promise 2: n 1 to 8, the highest of these first, those above them are not looked at. */
    private static void bytesOfALong() {
        String text = "bridge; ";
        for (int n = 1; n <= 8; n++) {
            SlowerCork x = new SlowerCork();
            int fed = 0;
            for (int from = 0; from < 8; from += n) {
                long bytes = 0x7878787878787878L;
                int take = Math.min(n, 8 - from);
                for (int k = 0; k < take; k++) {
                    bytes = bytes << 8 | text.charAt(from + k);
                }
                fed += take;
                due("feed(" + take + ") by " + n, x.feed(take, bytes), fed);
                due("told(2) by " + n, x.told(2), fed);
            }
            due("stream() fed by " + n, x.stream(), 1);
        }
        SlowerCork x = new SlowerCork();
        due("feed(0)", x.feed(0, 0L), OUTSIDE);
        due("feed(9)", x.feed(9, 0L), OUTSIDE);
        due("feed(-1)", x.feed(-1, 0L), OUTSIDE);
        due("told(2)", x.told(2), 0);
    }

    /** 500 bytes at most, each way to come there, and none is lost. */
    private static void fiveHundred() {
        for (int n = 1; n <= 8; n++) {
            SlowerCork x = new SlowerCork();
            feedText(x, filled("bridge;", 500 - n));
            due("told(2)", x.told(2), 500 - n);
            if (n < 8) {
                due("feed(" + (n + 1) + ") to 501", x.feed(n + 1, 0x2020202020202020L), FULL);
                due("told(2) behind it", x.told(2), 500 - n);
            }
            due("feed(" + n + ") to 500", x.feed(n, 0x2020202020202020L), 500);
            for (int more = 1; more <= 8; more++) {
                due("feed(" + more + ") when full", x.feed(more, 0x7878787878787878L), FULL);
            }
            due("feed(0) when full", x.feed(0, 0L), OUTSIDE);
            due("feed(9) when full", x.feed(9, 0L), OUTSIDE);
            due("told(2) when full", x.told(2), 500);
            due("stream() of 500", x.stream(), 1);
            due("it is empty then", x.feed(8, 0x2020202020202020L), 8);
        }
        fine(" ".repeat(493) + "bridge;", 1);
        fine(filled("bridge;", 499), 1);
        faulty(" ".repeat(494) + "bridge", CANNOT, 500);
        faulty(filled("bridge;", 499) + "x", CANNOT, 499);
        faulty(filled("bridge;", 499) + ";", CANNOT, 499);
        faulty(filled("place to 0 100;", 500), CANNOT, 500);
        faulty(filled("place to 0 100;", 496) + "brid", CANNOT, 496);
        fine(" ".repeat(500), 0);
        fine(TO_11.repeat(11) + " ".repeat(317) + "bridge;", 12);
    }

    private static void places() {
        fine("", 0);
        for (int places = 1; places <= 12; places++) {
            String last = Integer.toString(places - 1);
            fine(("place to " + last + " 100;").repeat(places - 1) + "bridge;", places);
            fine("place to 0 100;".repeat(places - 1) + "bridge;", places);
        }
        int twelfth = 11 * LENGTH_TO_11;
        String eleven = TO_11.repeat(11);
        faulty(eleven + "place to 0 100;bridge;", TOO_MANY, twelfth);
        faulty(eleven + "place to 0 100;place to 0 100;bridge;", TOO_MANY, twelfth);
        faulty(eleven + "place", TOO_MANY, twelfth);
        faulty(eleven + "  place;", TOO_MANY, twelfth + 2);
        faulty(eleven + "places to 0 100;bridge;", CANNOT, twelfth);
        faulty(eleven + "plac", CANNOT, twelfth);
        faulty(eleven, CANNOT, twelfth);
        faulty(eleven + "bridge", CANNOT, twelfth + 6);
        faulty(eleven + "bridge;place to 0 100;", CANNOT, twelfth + 7);
    }

    private static void moves() {
        faulty("place;bridge;", CANNOT, 5);
        fine("place to 0 100;bridge;", 2);
        fine("place to 0 50 to 1 50;bridge;", 2);
        String three = "place to 0 100;".repeat(2) + "bridge;";
        fine("place to 3 97 to 1 1 to 2 1 to 0 1;" + three, 4);
        faulty("place to 3 96 to 1 1 to 2 1 to 0 1 to 4 1;" + three, TOO_MANY, 35);
        faulty("place to 3 97 to 1 1 to 2 1 to 0 1 to 4 1;" + three, TOO_MANY, 35);
        faulty("place to 3 97 to 1 1 to 2 1 to 0 1 to", TOO_MANY, 35);
        faulty("place to 3 97 to 1 1 to 2 1 to 0 1to x", TOO_MANY, 34);
        faulty("place to 3 97 to 1 1 to 2 1 to 0 1 too", CANNOT, 35);
        faulty("place to 3 97 to 1 1 to 2 1 to 0 1 place", CANNOT, 35);
        faulty("place to 0 100;place to 3 96 to 1 1 to 2 1 to 0 1 to 4 1;" + three, TOO_MANY, 50);
    }

    private static void boundsOfP() {
        String rest = TO_11.repeat(10) + "bridge;";
        for (int p = 0; p <= 11; p++) {
            fine("place to " + p + " 100;" + rest, 12);
            fine(String.format("place to %03d 100;", p) + rest, 12);
            faulty(String.format("place to %04d 100;", p) + rest, NUMBER, 9);
        }
        for (String p : new String[] {"12", "012", "13", "20", "99", "100", "111", "255", "256", "999"}) {
            faulty("place to " + p + " 100;" + rest, NUMBER, 9);
        }
        for (String p : new String[] {"0000", "1000", "0011", "00000000000", "4294967296", "18446744073709551616", "4294967297"}) {
            faulty("place to " + p + " 100;" + rest, NUMBER, 9);
        }
        faulty("place to 0 50 to 12 50;" + rest, NUMBER, 17);
    }

    private static void boundsOfC() {
        String rest = "place to 1 100;bridge;";
        for (int c = 1; c <= 99; c++) {
            fine("place to 1 " + c + " to 0 " + (100 - c) + ";" + rest, 3);
            faulty("place to 1 " + c + ";" + rest, TOGETHER, 11 + Integer.toString(c).length());
            faulty("place to 1 " + c + " to 0 " + (101 - c) + ";" + rest, TOGETHER, 17 + Integer.toString(c).length());
        }
        fine("place to 1 100;" + rest, 3);
        fine("place to 1 099 to 0 001;" + rest, 3);
        for (String c : new String[] {"0", "00", "000", "101", "102", "200", "255", "256", "999"}) {
            faulty("place to 1 " + c + ";" + rest, NUMBER, 11);
        }
        for (String c : new String[] {"0000", "0001", "0100", "1000", "00000000100", "4294967396", "18446744073709551716"}) {
            faulty("place to 1 " + c + ";" + rest, NUMBER, 11);
        }
        faulty("place to 1 99 to 0 0;" + rest, NUMBER, 19);
    }

    private static void together() {
        String rest = "place to 0 100;".repeat(3) + "bridge;";
        fine("place to 1 40 to 2 30 to 3 20 to 4 10;" + rest, 5);
        faulty("place to 1 40 to 2 30 to 3 20 to 4 9;" + rest, TOGETHER, 36);
        faulty("place to 1 40 to 2 30 to 3 20 to 4 9  ;" + rest, TOGETHER, 38);
        faulty("place to 1 40 to 2 30 to 3 20 to 4 11;" + rest, TOGETHER, 35);
        faulty("place to 1 40 to 2 30 to 3 31 to 4 1;" + rest, TOGETHER, 27);
        faulty("place to 1 100 to 2 1;" + rest, TOGETHER, 20);
        faulty("place to 1 100 to 2 100;" + rest, TOGETHER, 20);
        faulty("place to 0 100;place to 1 99;" + rest, TOGETHER, 28);
        faulty("place to 0 100;place to 1 1;bridge;", TOGETHER, 27);
    }

    private static void unlikePlaces() {
        fine("place to 0 100;place to 0 50 to 1 50;bridge;", 3);
        faulty("place to 0 50 to 0 50;bridge;", ALREADY, 17);
        faulty("place to 1 50 to 1 50;bridge;", ALREADY, 17);
        faulty("place to 1 50 to 01 50;bridge;", ALREADY, 17);
        faulty("place to 1 50 to 0 25 to 1 25;bridge;", ALREADY, 25);
        faulty("place to 1 50 to 0 25 to 2 5 to 0 20;bridge;", ALREADY, 32);
        faulty("place to 9 50 to 9", ALREADY, 17);
    }

    private static final String[] TOKENS = {"place", "to", "1", "40", "to", "0", "60", ";", "place", "to", "2", "100", ";", "bridge", ";"};

    private static boolean isWord(String token) {
        return Character.isLetter(token.charAt(0));
    }

    private static boolean isNumber(String token) {
        return Character.isDigit(token.charAt(0));
    }

    /** The tokens with one blank between, but at one gap what is told. */
    private static String joined(int gap, String between) {
        StringBuilder s = new StringBuilder();
        for (int k = 0; k <= TOKENS.length; k++) {
            s.append(k == gap ? between : " ");
            s.append(k < TOKENS.length ? TOKENS[k] : "");
        }
        return s.toString();
    }

    private static int beginOf(int token) {
        int at = 0;
        for (int k = 0; k < token; k++) {
            at += 1 + TOKENS[k].length();
        }
        return at + 1;
    }

    private static void blanksBetween() {
        for (int gap = 0; gap <= TOKENS.length; gap++) {
            fine(joined(gap, "  "), 3);
            fine(joined(gap, "     "), 3);
            boolean inside = gap > 0 && gap < TOKENS.length;
            String bare = joined(gap, "");
            if (inside && isWord(TOKENS[gap - 1]) && isWord(TOKENS[gap])) {
                faulty(bare, CANNOT, beginOf(gap - 1));
            } else if (inside && isNumber(TOKENS[gap - 1]) && isNumber(TOKENS[gap])) {
                faulty(bare, NUMBER, beginOf(gap - 1));
            } else {
                fine(bare, 3);
            }
        }
        fine("place to1 40to0 60;place to2 100;bridge;", 3);
    }

    /** A blank within a word or a number parts it. */
    private static void blanksWithin() {
        for (int k = 0; k < TOKENS.length; k++) {
            String token = TOKENS[k];
            for (int cut = 1; cut < token.length(); cut++) {
                String[] kept = TOKENS.clone();
                TOKENS[k] = token.substring(0, cut) + " " + token.substring(cut);
                String text = joined(0, " ");
                int at = beginOf(k);
                System.arraycopy(kept, 0, TOKENS, 0, kept.length);
                faulty(text, CANNOT, isWord(token) ? at : at + cut + 1);
            }
        }
    }

    /** No byte but a blank, a letter, a figure, ';' stands anywhere. */
    private static void otherBytes() {
        for (int b = 0; b < 256; b++) {
            boolean known = b == 32 || b == ';' || b >= 'a' && b <= 'z' || b >= '0' && b <= '9';
            for (int gap = 0; gap <= TOKENS.length && !known; gap++) {
                int at = gap < TOKENS.length ? beginOf(gap) - 1 : joined(0, " ").length() - 1;
                faulty(joined(gap, Character.toString((char) b)), CANNOT, at);
            }
            if (!known) {
                faulty(Character.toString((char) b), CANNOT, 0);
                faulty("place to 1 1" + (char) b + "00;bridge;", CANNOT, 12);
                faulty("pl" + (char) b + "ace to 1 100;bridge;", CANNOT, 0);
            }
        }
    }

    /** Which token may stand behind which: all others cannot, at their first byte; numbers where none can too, however long. */
    private static void whatCannotStand() {
        String[] ahead = {"", "place", "place to", "place to 1", "place to 1 100", "place to 1 100;", "bridge", "bridge;"};
        String[] can = {"place bridge", "to", "N", "N", "to ;", "place bridge", ";", ""};
        String[] all = {"place", "to", "bridge", ";", "1", "1000", "12", "0", "x", "a", "z", "placeto", "brid", "bridges", "t", "-1", "+1", "1.0"};
        for (int k = 0; k < ahead.length; k++) {
            List<String> may = List.of(can[k].split(" "));
            for (String token : all) {
                boolean number = Character.isDigit(token.charAt(0));
                if (!may.contains(token) && !(number && may.contains("N"))) {
                    faulty(ahead[k] + " " + token + " ;bridge;", CANNOT, ahead[k].length() + 1);
                }
            }
            if (k != 0 && k != ahead.length - 1) {
                faulty(ahead[k], CANNOT, ahead[k].length());
                faulty(ahead[k] + "   ", CANNOT, ahead[k].length() + 3);
            }
        }
        fine("   ", 0);
        fine(" ", 0);
        faulty(";", CANNOT, 0);
        faulty("bridge;;", CANNOT, 7);
        faulty("bridge;bridge;", CANNOT, 7);
        faulty("bridge;  1", CANNOT, 9);
        faulty("bridge to 0 100;", CANNOT, 7);
    }

    /** A word is all letters side by side: with one other, one more or one less it is no word of the text. */
    private static void otherWords() {
        for (int k = 0; k < TOKENS.length; k++) {
            String word = TOKENS[k];
            String[] kept = TOKENS.clone();
            int at = beginOf(k);
            for (int place = 0; place < word.length() && isWord(word); place++) {
                for (char c = 'a'; c <= 'z'; c++) {
                    String other = word.substring(0, place) + c + word.substring(place + 1);
                    TOKENS[k] = other;
                    if (!other.equals(word)) {
                        faulty(joined(0, " "), CANNOT, at);
                    }
                    TOKENS[k] = word.substring(0, place) + c + word.substring(place);
                    faulty(joined(0, " "), CANNOT, at);
                    TOKENS[k] = word + c;
                    faulty(joined(0, " "), CANNOT, at);
                }
                TOKENS[k] = word.substring(0, place) + word.substring(place + 1);
                faulty(joined(0, " "), CANNOT, at);
            }
            System.arraycopy(kept, 0, TOKENS, 0, kept.length);
        }
        String eleven = TO_11.repeat(11);
        String four = "place to 3 97 to 1 1 to 2 1 to 0 1 ";
        for (String other : new String[] {"plaze", "xlace", "placf", "bxidge", "bridgf"}) {
            faulty(eleven + other + " to 0 100;bridge;", CANNOT, eleven.length());
        }
        for (String other : new String[] {"tx", "xo", "ot", "t", "o", "too"}) {
            faulty(four + other + " 4 1;bridge;", CANNOT, four.length());
        }
    }

    /** Of faults at one byte the least; of faults at several bytes the first byte's. */
    private static void whichFault() {
        faulty("place 1000", CANNOT, 6);
        faulty("place to 1 50 to 1000 50;bridge;", NUMBER, 17);
        faulty("place to 12 50 to 12 50;bridge;", NUMBER, 9);
        faulty("place to 1 50 to 0 101;bridge;", NUMBER, 19);
        faulty("place to 1 50 to 0 0051;bridge;", NUMBER, 19);
        faulty("place to 1 101;x", NUMBER, 11);
        faulty("place to 1 50 to 0 51 to 0 101 to;", TOGETHER, 19);
        faulty("place to 1 50 to 1 51;bridge;", ALREADY, 17);
        faulty("place to 1 50 to 1 0;bridge;", ALREADY, 17);
        faulty("place to 1 50 to 1;", ALREADY, 17);
        faulty("place to 1 50;x", TOGETHER, 13);
        faulty("place to 1 50;", TOGETHER, 13);
        faulty("place to 1 50", CANNOT, 13);
        faulty("place to 1 50x;", CANNOT, 13);
        faulty("place to 1 50 to 0 51", TOGETHER, 19);
        faulty("place to 9 100;place to 1 99;bridge;", TOGETHER, 28);
        faulty("place to 9 100;place to 1 100;bridge;;", CANNOT, 37);
        faulty("place to 9 100;place to 1 100;bridge", CANNOT, 36);
        faulty("place to 9 50 to 9 50;bridge;", ALREADY, 17);
    }

    /** P that is no PLACE of the text: the first such, the last that is one being THE BRIDGE. */
    private static void noPlace() {
        for (int places = 2; places <= 12; places++) {
            String rest = "place to 0 100;".repeat(places - 2) + "bridge;";
            fine("place to " + (places - 1) + " 100;" + rest, places);
            for (int p = places; p <= 11; p++) {
                faulty("place to " + p + " 100;" + rest, NO_PLACE, 9);
                faulty("place to 0 50 to " + p + " 50;" + rest, NO_PLACE, 17);
                faulty("place to 0 50 to  0" + p + " 50;" + rest, NO_PLACE, 18);
            }
        }
        faulty("place to 3 60 to 4 40;bridge;", NO_PLACE, 9);
        faulty("place to 1 60 to 2 40;place to 9 100;bridge;", NO_PLACE, 31);
        faulty("place to 0 25 to 1 25 to 2 25 to 3 25;place to 4 100;bridge;", NO_PLACE, 33);
    }

    /** Promise 4: of the latest stream(), whatever is called between. */
    private static void faultOfTheLatest() {
        SlowerCork x = new SlowerCork();
        due("at first", x.fault(), NONE);
        feedText(x, "place to 2 100;bridge;");
        due("fed, not read yet", x.fault(), NONE);
        due("no place 2", x.stream(), -16);
        due("its byte", x.fault(), 9);
        due("asked again", x.fault(), 9);
        feedText(x, "bridge");
        x.keep(0);
        x.goBack(0);
        x.begin();
        due("still the latest one's", x.fault(), 9);
        due("no ';'", x.stream(), -11);
        due("at the end", x.fault(), 6);
        due("nothing at all", x.stream(), 0);
        due("none then", x.fault(), NONE);
        feedText(x, "x");
        due("'x'", x.stream(), -11);
        due("at byte 0", x.fault(), 0);
        feedText(x, "bridge;");
        due("a good one", x.stream(), 1);
        due("none again", x.fault(), NONE);
    }

    /** A text behind a longer one has nothing of it. */
    private static void nothingOfTheTextAhead() {
        List<String> texts = new ArrayList<>(List.of("place to 1 10 to 2 20 to 3 30 to 4 40;".concat("place to 0 100;".repeat(3)).concat("bridge;"),
            "bridge;", "place to 1 100;bridge;", "bridge", "", "place to 0 50 to 1 50;place to 2 100;bridge;"));
        int[] answers = {5, 1, 2, -11, 0, 3};
        int[] moves = {4, 0, 1, 1, -1000000001, 2};
        SlowerCork x = new SlowerCork();
        for (int k = 0; k < texts.size(); k++) {
            feedText(x, texts.get(k));
            due("stream() of '" + texts.get(k) + "'", x.stream(), answers[k]);
            due("moves behind '" + texts.get(k) + "'", x.move(0, NONE, 0), moves[k]);
        }
        due("P", x.move(0, 1, 0), 1);
        due("C", x.move(0, 1, 1), 50);
        due("only one of place 1", x.move(1, NONE, 0), 1);
        due("none of the bridge", x.move(2, NONE, 0), 0);
    }

    public static void main(String[] args) {
        bytesOfALong();
        fiveHundred();
        places();
        moves();
        boundsOfP();
        boundsOfC();
        together();
        unlikePlaces();
        blanksBetween();
        blanksWithin();
        otherBytes();
        whatCannotStand();
        otherWords();
        whichFault();
        noPlace();
        faultOfTheLatest();
        nothingOfTheTextAhead();
        System.out.println(wrong == 0 ? "all texts are read as due" : wrong + " answers are not as due");
        if (wrong != 0) {
            System.exit(1);
        }
    }
}
