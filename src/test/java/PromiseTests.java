/** For each promise of the document: ordinary inputs, the edges that it names, and wrong inputs, worked out by hand. */
public final class PromiseTests {
    private static final int NONE = -1, UNKNOWN = -1000000001, OUTSIDE = -1000000002, NOT = -1000000003, FULL = -1000000004;
    private static final int BILLION = 1000000000;
    private static final int MAX = Integer.MAX_VALUE, MIN = Integer.MIN_VALUE;

    /** Each minute one half comes. */
    private static final String HALF = "place to 1 50 to 0 50;bridge;";
    /** The draw's order the other way round. */
    private static final String STAYS_FIRST = "place to 0 50 to 1 50;bridge;";
    /** From 0 just at minute 2, from 1 just at minute 1. */
    private static final String LINE = "place to 1 100;place to 2 100;bridge;";
    /** 1 and 2 are pools that keep a cork for ever. */
    private static final String POOLS = "place to 1 10 to 3 60 to 0 30;place to 2 100;place to 1 50 to 2 50;bridge;";
    /** Place 0 comes at 2; place 1 at 1 or at 3, one half each. */
    private static final String GUESSED = "place to 3 100;place to 4 50 to 2 50;place to 3 100;place to 4 100;bridge;";
    /** Place 0 comes with 60 of a hundred each minute, place 1 with 50. */
    private static final String UNLIKE = "place to 2 60 to 0 40;place to 2 50 to 1 50;bridge;";

    private static int wrong = 0;

    private static void due(String call, int got, int want) {
        if (got != want) {
            wrong++;
            System.out.println(call + " answered " + got + ", due is " + want);
        }
    }

    private static int feedText(SlowerCork x, String text) {
        int length = x.told(2);
        for (int i = 0; i < text.length(); i += 8) {
            int n = Math.min(8, text.length() - i);
            long bytes = 0;
            for (int k = 0; k < n; k++) {
                bytes = bytes << 8 | text.charAt(i + k) & 255;
            }
            length = x.feed(n, bytes);
        }
        return length;
    }

    private static SlowerCork of(String text) {
        SlowerCork x = new SlowerCork();
        feedText(x, text);
        int answer = x.stream();
        if (answer < 0) {
            due("stream() of " + text, answer, 0);
        }
        return x;
    }

    private static void faulty(String text, int number, int at) {
        SlowerCork x = of(HALF);
        feedText(x, text);
        due("stream() of '" + text + "'", x.stream(), -10 - number);
        due("fault() of '" + text + "'", x.fault(), at);
        due("told(2) behind '" + text + "'", x.told(2), 0);
        due("told(0) behind '" + text + "'", x.told(0), 2);
    }

    private static void fine(String text, int places) {
        SlowerCork x = new SlowerCork();
        feedText(x, text);
        due("stream() of '" + text + "'", x.stream(), places);
        due("fault() of '" + text + "'", x.fault(), NONE);
        due("told(0) of '" + text + "'", x.told(0), places);
    }

    private static void newObject() {
        SlowerCork x = new SlowerCork();
        for (int what = 0; what < 8; what++) {
            due("new told(" + what + ")", x.told(what), 0);
        }
        due("new fault()", x.fault(), NONE);
        due("new seed", x.seed(0), 0);
        due("new move", x.move(0, 0, 0), UNKNOWN);
        due("new goBack", x.goBack(0), NOT);
        due("new judge", x.judge(0), NONE);
        due("new stone", x.stone(0, true), UNKNOWN);
        due("new mixed", x.mixed(0, 1, 0), UNKNOWN);
        due("new best", x.best(0, 0, 0), NOT);
        due("new morning", x.morning(1), NOT);
    }

    private static void feed() {
        SlowerCork x = new SlowerCork();
        due("feed(0)", x.feed(0, 1L), OUTSIDE);
        due("feed(9)", x.feed(9, 1L), OUTSIDE);
        due("feed(MIN)", x.feed(MIN, 1L), OUTSIDE);
        due("feed(MAX)", x.feed(MAX, 1L), OUTSIDE);
        for (int i = 1; i <= 62; i++) {
            due("feed(8)", x.feed(8, -1L), 8 * i);
        }
        due("feed to 501", x.feed(5, 0L), FULL);
        due("told(2) is as it was", x.told(2), 496);
        due("feed to 500", x.feed(4, 0L), 500);
        due("feed(1) when full", x.feed(1, 0L), FULL);
        due("feed(0) when full", x.feed(0, 0L), OUTSIDE);
        due("byte 255 cannot stand", x.stream(), -11);
        due("at byte 0", x.fault(), 0);
        due("only the lowest are taken", x.feed(1, 0x6161616161616120L), 1);
        due("a blank", x.stream(), 0);
        feedText(x, HALF.substring(0, 11));
        feedText(x, HALF.substring(11));
        due("fed in parts", x.stream(), 2);
    }

    private static void streamFine() {
        fine("", 0);
        fine("   ", 0);
        fine("bridge;", 1);
        fine("  bridge  ;  ", 1);
        fine("place to0 50to1 50;bridge;", 2);
        fine("place  to  000  050  to 001 50 ; bridge ; ", 2);
        fine("place to 0 1 to 1 1 to 2 1 to 3 97;place to 0 100;place to 0 100;bridge;", 4);
        StringBuilder twelve = new StringBuilder();
        for (int p = 0; p < 11; p++) {
            twelve.append("place to 11 100;");
        }
        fine(twelve + "bridge;", 12);
        faulty(twelve + "place to 11 100;bridge;", 3, 11 * 16);
        faulty(twelve + "placeto 11 100;bridge;", 1, 11 * 16);
        faulty(twelve.toString(), 1, 11 * 16);
    }

    private static void streamFaults() {
        faulty("x", 1, 0);
        faulty("Place to 0 100;bridge;", 1, 0);
        faulty("bridges;", 1, 0);
        faulty("bridg;", 1, 0);
        faulty("bridge", 1, 6);
        faulty("bridge  ", 1, 8);
        faulty("bridge;;", 1, 7);
        faulty("bridge; place", 1, 8);
        faulty("place", 1, 5);
        faulty("placeto 1 100;bridge;", 1, 0);
        faulty("place ;bridge;", 1, 6);
        faulty("place 1 100;bridge;", 1, 6);
        faulty("place 1000;bridge;", 1, 6);
        faulty("place to ;bridge;", 1, 9);
        faulty("place to 1 ;bridge;", 1, 11);
        faulty("place to 1 x;bridge;", 1, 11);
        faulty("place to x", 1, 9);
        faulty("place to 1 100 0;bridge;", 1, 15);
        faulty("place to 1 100a;bridge;", 1, 14);
        faulty("place to 1 100;", 1, 15);
        faulty("place to 1 100; to 1 1;bridge;", 1, 16);
        faulty("place to -1 100;bridge;", 1, 9);
        faulty("place\tto 1 100;bridge;", 1, 5);
        faulty("pl ace to 1 100;bridge;", 1, 0);
        faulty("place to 12 100;bridge;", 2, 9);
        faulty("place to 0001 100;bridge;", 2, 9);
        faulty("place to 1 0;bridge;", 2, 11);
        faulty("place to 1 101;bridge;", 2, 11);
        faulty("place to 1 0100;bridge;", 2, 11);
        faulty("place to 1 99999999999999;bridge;", 2, 11);
        faulty("place to 0 20 to 1 20 to 2 20 to 3 20 to 4 20;bridge;", 3, 38);
        faulty("place to 0 20 to 1 20 to 2 20 to 3 20 tox;bridge;", 1, 38);
        faulty("place to 1 50 to 01 50;bridge;", 4, 17);
        faulty("place to 1 50 to 1 999;bridge;", 4, 17);
        faulty("place to 1 50 to 0 51;bridge;", 5, 19);
        faulty("place to 1 50 to 0 101;bridge;", 2, 19);
        faulty("place to 1 50 to 0 49 ;bridge;", 5, 22);
        faulty("place to 1 99;x", 5, 13);
        faulty("place to 2 100;bridge;", 6, 9);
        faulty("place to 5 50 to 6 50;bridge;", 6, 9);
        faulty("place to 1 50 to 6 50;bridge;", 6, 17);
        faulty("place to 5 100;bridge;x", 1, 22);
    }

    private static void streamBeginsAnew() {
        SlowerCork x = of(HALF);
        x.cork(0, 0, 1);
        x.cork(1, 2, 3);
        x.stone(0, true);
        x.run(0, 1);
        x.log(0, 0);
        x.log(1, 12);
        x.keep(0);
        x.seed(77);
        x.drift(1);
        feedText(x, "place");
        due("a faulty one", x.stream(), -11);
        due("stones stay", x.told(7), 1);
        due("runs stay", x.told(1), 1);
        due("logs stay", x.told(3) + x.told(4), 2);
        due("the minute stays", x.told(5), 1);
        due("images stay", x.goBack(0), 1);
        due("the seed of the image", x.seed(78), 0);
        feedText(x, HALF);
        due("a good one", x.stream(), 2);
        due("fault is gone", x.fault(), NONE);
        for (int what : new int[] {1, 3, 4, 5, 7}) {
            due("anew told(" + what + ")", x.told(what), 0);
        }
        due("plain", x.cork(0, 0, 0), 0);
        due("minute 0", x.cork(1, 2, 0), 0);
        due("images are gone", x.goBack(0), NOT);
        due("the seed stays", x.seed(0), 78);
        due("nothing at all", x.stream(), 0);
        due("no places", x.told(0), 0);
    }

    private static void told() {
        SlowerCork x = of(POOLS);
        due("told(0)", x.told(0), 4);
        due("told(6)", x.told(6), 6);
        due("told(-1)", x.told(-1), OUTSIDE);
        due("told(8)", x.told(8), OUTSIDE);
        x.run(0, 5);
        x.run(1, 5);
        x.log(0, 0);
        x.log(1, 0);
        x.log(1, 0);
        x.stone(2, true);
        x.stone(0, true);
        x.feed(3, 0L);
        x.cork(0, 1, 1);
        x.cork(1, 1, 2);
        x.drift(7);
        due("told(1)", x.told(1), 2);
        due("told(2)", x.told(2), 3);
        due("told(3)", x.told(3), 1);
        due("told(4)", x.told(4), 2);
        due("told(5)", x.told(5), 7);
        due("told(7)", x.told(7), 5);
    }

    private static void move() {
        SlowerCork x = of(POOLS);
        due("moves of 0", x.move(0, NONE, 0), 3);
        due("moves of the bridge", x.move(3, NONE, 0), 0);
        due("P", x.move(0, 1, 0), 3);
        due("C", x.move(0, 1, 1), 60);
        x.stone(0, true);
        due("without the stone", x.move(0, NONE, 1) * 100 + x.move(0, 0, 1), 310);
        x.dig(0, 1, 0, 5);
        due("by digging", x.move(0, 1, 1), 55);
        due("move(4)", x.move(4, 0, 0), UNKNOWN);
        due("move(-1)", x.move(-1, 0, 0), UNKNOWN);
        due("move 3 of 0", x.move(0, 3, 0), UNKNOWN);
        due("move 0 of the bridge", x.move(3, 0, 9), UNKNOWN);
        due("move -2", x.move(0, -2, 0), UNKNOWN);
        due("what 2", x.move(0, 0, 2), OUTSIDE);
        due("what -1", x.move(0, NONE, -1), OUTSIDE);
    }

    private static void cork() {
        SlowerCork x = of(LINE);
        due("kind was", x.cork(0, 0, 2), 0);
        due("kind was then", x.cork(0, 0, 1), 2);
        due("place was", x.cork(1, 1, 1), 0);
        due("minute was", x.cork(1, 2, 30), 0);
        due("minute was then", x.cork(1, 2, 0), 30);
        due("side 2", x.cork(2, 0, 0), UNKNOWN);
        due("side -1", x.cork(-1, 5, 0), UNKNOWN);
        due("kind 3", x.cork(0, 0, 3), UNKNOWN);
        due("kind -1", x.cork(0, 0, -1), UNKNOWN);
        due("the bridge", x.cork(0, 1, 2), UNKNOWN);
        due("place 3", x.cork(0, 1, 3), UNKNOWN);
        due("what 3", x.cork(0, 3, 0), OUTSIDE);
        due("what -1", x.cork(0, -1, 0), OUTSIDE);
        due("minute 31", x.cork(0, 2, 31), OUTSIDE);
        due("minute -1", x.cork(0, 2, -1), OUTSIDE);
        x.cork(0, 0, 0);
        x.cork(1, 1, 0);
        x.drift(1);
        due("refused: the drift goes on", x.cork(0, 2, 31) == OUTSIDE ? x.told(5) : -2, 1);
        x.cork(0, 0, 0);
        due("the drift is anew", x.told(5) * 10 + x.where(0), 0);
        SlowerCork none = new SlowerCork();
        due("none: place", none.cork(0, 1, 0), UNKNOWN);
        due("none: minute 31", none.cork(0, 2, 31), OUTSIDE);
        due("none: minute", none.cork(0, 2, 3), NOT);
        SlowerCork bridge = of("bridge;");
        due("bridge: place", bridge.cork(0, 1, 0), UNKNOWN);
        due("bridge: kind", bridge.cork(0, 0, 0), NOT);
    }

    private static void comesAtKept() {
        SlowerCork x = of(HALF);
        due("plain by 0", x.comes(0, 0, 0), 0);
        due("plain by 3", x.comes(0, 0, 3), 875000000);
        due("waxed by 1", x.comes(1, 0, 1), 750000000);
        due("heavy by 1", x.comes(2, 0, 1), 0);
        due("heavy by 5", x.comes(2, 0, 5), 750000000);
        due("the bridge", x.comes(2, 1, 0), BILLION);
        // 1000000000 / 2^10 is 976562.5: what comes is cut, what stays is what is left
        due("plain by 10", x.comes(0, 0, 10), 999023437);
        due("left at 10", x.at(0, 0, 10, 0), 976563);
        due("left at 200", x.at(0, 0, 200, 0), 1);
        due("come by 200", x.comes(0, 0, 200), 999999999);
        SlowerCork y = of(STAYS_FIRST);
        due("what is left comes", y.comes(0, 0, 10), 999023438);
        due("all have come", y.comes(0, 0, 200), BILLION);
        SlowerCork z = of(POOLS);
        due("at 2 at 2", z.at(0, 0, 2, 2), 100000000);
        due("kept at 0", z.kept(0, 0, 0), 0);
        due("kept at 1", z.kept(0, 0, 1), 100000000);
        due("kept at 2", z.kept(0, 0, 2), 130000000);
        due("kept, waxed", z.kept(1, 0, 1), 130000000);
        due("kept, heavy", z.kept(2, 0, 1), 0);
        due("kept from a pool", z.kept(0, 2, 200), BILLION);
        due("none comes from a pool", z.comes(1, 1, 200), 0);
        due("kept at the bridge", z.kept(0, 3, 9), 0);
        for (int kind : new int[] {-1, 3, MAX, MIN}) {
            due("comes, kind", z.comes(kind, 0, 0), UNKNOWN);
            due("at, kind", z.at(kind, 0, 0, 0), UNKNOWN);
            due("kept, kind", z.kept(kind, 0, 0), UNKNOWN);
        }
        for (int p : new int[] {-1, 4, MAX, MIN}) {
            due("comes, place", z.comes(0, p, 900), UNKNOWN);
            due("at, place", z.at(0, p, 0, 0), UNKNOWN);
            due("at, other place", z.at(0, 0, 900, p), UNKNOWN);
            due("kept, place", z.kept(0, p, 0), UNKNOWN);
        }
        for (int t : new int[] {-1, 201, MAX, MIN}) {
            due("comes, minute", z.comes(0, 0, t), OUTSIDE);
            due("at, minute", z.at(0, 0, t, 0), OUTSIDE);
            due("kept, minute", z.kept(0, 0, t), OUTSIDE);
        }
    }

    private static void known() {
        SlowerCork x = of(LINE);
        due("waxed", x.known(1, 0, 1000), 1);
        due("heavy", x.known(2, 0, 1000), 2);
        due("plain", x.known(0, 0, 1), NONE);
        due("at the bridge", x.known(1, 2, 1), NONE);
        SlowerCork y = of(HALF);
        due("waxed, 250", y.known(1, 0, 250), 1);
        due("waxed, 251", y.known(1, 0, 251), NONE);
        due("heavy, 500", y.known(2, 0, 500), 1);
        due("heavy, 501", y.known(2, 0, 501), NONE);
        due("d 0", x.known(0, 0, 0), OUTSIDE);
        due("d 1001", x.known(0, 0, 1001), OUTSIDE);
        due("kind 3", x.known(3, 0, 0), UNKNOWN);
        due("place 3", x.known(0, 3, 0), UNKNOWN);
        due("none", new SlowerCork().known(0, 0, 1), UNKNOWN);
    }

    private static void later() {
        SlowerCork x = of(LINE);
        due("alike: both at once", x.later(2), 1000000);
        due("alike: none is later", x.later(0) + x.later(1), 0);
        x.cork(1, 1, 1);
        due("side 0 is later", x.later(0), 1000000);
        due("side 1 is not", x.later(1), 0);
        x.cork(1, 2, 1);
        due("both at 2", x.later(2), 1000000);
        x.cork(1, 2, 2);
        due("side 1 is later now", x.later(1), 1000000);
        x.cork(0, 2, 30);
        due("side 0 at 32", x.later(0), 1000000);
        x.cork(1, 0, 2);
        x.cork(1, 2, 30);
        due("heavy at 32", x.later(2), 1000000);
        SlowerCork y = of(HALF);
        due("a third each", y.later(0), 333333);
        due("both at once, a third", y.later(2), 333333);
        SlowerCork z = of(POOLS);
        z.cork(1, 1, 1);
        due("a pool's is later", z.later(1), 857142);
        due("the other never", z.later(0), 0);
        due("what 3", z.later(3), OUTSIDE);
        due("what -1", z.later(-1), OUTSIDE);
        due("none, what 3", new SlowerCork().later(3), OUTSIDE);
        due("none", new SlowerCork().later(0), NOT);
        due("bridge", of("bridge;").later(2), NOT);
    }

    private static void best() {
        SlowerCork x = of(LINE);
        due("the first of like ones", x.best(0, 10, 0) * 100 + x.best(0, 10, 1), 0);
        x.cork(1, 1, 1);
        due("place", x.best(0, 10, 0), 1);
        due("minute", x.best(0, 10, 1), 0);
        due("later", x.best(0, 10, 2), 0);
        x.cork(0, 0, 2);
        x.cork(0, 2, 30);
        due("its kind is kept: heavy is late", x.best(0, 10, 2), 1000000);
        due("its own minute is not", x.best(0, 10, 0) * 100 + x.best(0, 10, 1), 0);
        due("side 1 is first in any case", x.best(1, 0, 2), 0);
        due("side 2", x.best(2, 0, 0), UNKNOWN);
        due("m 11", x.best(0, 11, 0), OUTSIDE);
        due("m -1", x.best(0, -1, 0), OUTSIDE);
        due("what 3", x.best(1, 0, 3), OUTSIDE);
        due("none", new SlowerCork().best(0, 0, 0), NOT);
        due("none, side", new SlowerCork().best(9, 0, 0), UNKNOWN);
    }

    private static void mixed() {
        SlowerCork x = of(LINE);
        int[] line = {0, 0, 1000000, 0, 1000000, 0, 0};
        SlowerCork y = of(GUESSED);
        y.cork(0, 2, 9);
        y.cork(1, 1, 3);
        int[] guessed = {333333, 333333, 666666, 0, 333333, 666666, 0};
        for (int what = 0; what <= 6; what++) {
            due("line, what " + what, x.mixed(0, 2, what), line[what]);
            due("guessed, what " + what, y.mixed(0, 2, what), guessed[what]);
        }
        due("one place", y.mixed(1, 1, 0), 250000);
        due("its share", y.mixed(1, 1, 1), 1000000);
        due("beyond n", y.mixed(1, 1, 2) + y.mixed(1, 1, 6), 0);
        due("the bridge among them", y.mixed(2, 3, 0), UNKNOWN);
        due("up to the bridge", y.mixed(3, 1, 0), 0);
        due("the bridge", y.mixed(4, 1, 0), UNKNOWN);
        due("p -1", y.mixed(-1, 2, 0), UNKNOWN);
        due("n 4", y.mixed(0, 4, 0), OUTSIDE);
        due("n 0", y.mixed(0, 0, 0), OUTSIDE);
        due("n MIN", y.mixed(0, MIN, 0), OUTSIDE);
        due("n MAX", y.mixed(3, MAX, 0), UNKNOWN);
        due("what 7", y.mixed(0, 1, 7), OUTSIDE);
        due("what -1", y.mixed(0, 1, -1), OUTSIDE);
    }

    private static void stone() {
        SlowerCork x = of(HALF);
        due("laid", x.stone(0, true), 0);
        due("laid again", x.stone(0, true), 1);
        due("30 go on", x.comes(0, 0, 1), 300000000);
        due("taken", x.stone(0, false), 1);
        due("taken again", x.stone(0, false), 0);
        due("50 go on", x.comes(0, 0, 1), 500000000);
        due("the bridge", x.stone(1, true), UNKNOWN);
        due("-1", x.stone(-1, true), UNKNOWN);
        SlowerCork y = of("place to 1 5 to 0 95;bridge;");
        y.stone(0, true);
        due("4 at most", y.comes(0, 0, 1), 10000000);
        y.dig(0, 0, 1, 4);
        due("none of 1", y.comes(0, 0, 1), 10000000);
        y.dig(0, 1, 0, 20);
        due("20 of 21", y.comes(0, 0, 1), 10000000);
        y.dig(0, 1, 0, 1);
        due("20 of 22", y.comes(0, 0, 1), 20000000);
        SlowerCork z = of(LINE);
        z.stone(0, true);
        due("ahead of the only move", z.at(0, 0, 1, 0), 200000000);
    }

    private static void most() {
        SlowerCork x = of(LINE);
        due("of like ones the least", x.most(0, 0), 0);
        due("by a sixth", x.most(0, 1), 166666);
        x.cork(1, 1, 1);
        due("at the other's", x.most(0, 0), 1);
        due("less", x.most(0, 1), -166667);
        x.stone(1, true);
        due("taken: more", x.most(0, 0) * 1000000 + x.most(0, 1), 1000000 + 166667);
        due("no stone is left behind", x.told(7), 2);
        SlowerCork y = of("place to 0 100;bridge;");
        due("nothing changes", y.most(1, 0) * 10 + y.most(1, 1), 0);
        due("side 2", x.most(2, 0), UNKNOWN);
        due("what 2", x.most(0, 2), OUTSIDE);
        due("bridge", of("bridge;").most(0, 0), NOT);
    }

    private static void runs() {
        SlowerCork x = of(HALF);
        due("no runs", x.fit(NONE), BILLION);
        due("no runs, with a stone", x.fit(0), BILLION);
        due("no runs, stoned", x.stoned(), NONE);
        due("run", x.run(0, 1), 1);
        due("fit 1", x.fit(NONE), 500000000);
        due("run", x.run(0, 2), 2);
        due("fit 2", x.fit(NONE), 125000000);
        due("with a stone", x.fit(0), 63000000);
        due("none fits better", x.stoned(), NONE);
        due("forget", x.forget(), 2);
        due("forget again", x.forget(), 0);
        x.run(0, 5);
        due("as it is", x.fit(NONE), 31250000);
        due("stone", x.fit(0), 72030000);
        due("stoned", x.stoned(), 0);
        x.stone(0, true);
        due("there as it is", x.fit(NONE), 72030000);
        due("taken", x.fit(0), 31250000);
        due("stoned no more", x.stoned(), NONE);
        due("told(7)", x.told(7), 1);
        due("fit(1)", x.fit(1), UNKNOWN);
        due("fit(-2)", x.fit(-2), UNKNOWN);
        due("the bridge", x.run(1, 1), UNKNOWN);
        due("place -1", x.run(-1, 0), UNKNOWN);
        due("minute 0", x.run(0, 0), OUTSIDE);
        due("minute 201", x.run(0, 201), OUTSIDE);
        for (int i = 2; i <= 12; i++) {
            due("run " + i, x.run(0, 200), i);
        }
        due("run 13", x.run(0, 200), FULL);
        due("minute 0 when full", x.run(0, 0), OUTSIDE);
        due("told(1)", x.told(1), 12);
        due("at least 1", x.fit(NONE), 1);
        SlowerCork y = of(LINE);
        y.run(0, 1);
        y.run(0, 2);
        due("never: 1, then all of it", y.fit(NONE), 1);
        y.forget();
        y.run(1, 2);
        due("stoned at 1", y.stoned(), 1);
        y.cork(0, 0, 1);
        due("plain in any case", y.fit(1), 160000000);
    }

    private static void dig() {
        SlowerCork x = of(POOLS);
        due("dig", x.dig(0, 1, 2, 59), 89);
        due("1 is left", x.move(0, 1, 1), 1);
        due("too much", x.dig(0, 1, 2, 1), NOT);
        due("nothing is changed", x.move(0, 1, 1) * 1000 + x.move(0, 2, 1), 1089);
        due("n 0", x.dig(0, 1, 2, 0), OUTSIDE);
        due("n 100", x.dig(0, 1, 2, 100), OUTSIDE);
        due("one twice", x.dig(0, 1, 1, 0), UNKNOWN);
        due("no such move", x.dig(0, 3, 1, 1), UNKNOWN);
        due("no such other", x.dig(0, 1, -1, 1), UNKNOWN);
        due("no such place", x.dig(4, 0, 1, 1), UNKNOWN);
        due("the bridge", x.dig(3, 0, 1, 1), UNKNOWN);
        due("comes by it", x.comes(0, 0, 1), 10000000);
    }

    private static void fair() {
        SlowerCork x = of(UNLIKE);
        due("alike: n 0", x.fair(0, 0), 0);
        due("alike: no place", x.fair(0, 1), NONE);
        x.cork(1, 1, 1);
        fairIs(x, 0, new int[] {10, 0, 0, 1});
        fairIs(x, 114000, new int[] {1, 0, 0, 1});
        fairIs(x, 112500, new int[] {1, 1, 1, 0});
        fairIs(x, 125000, new int[] {0, NONE, NONE, NONE});
        due("nothing was dug", x.move(0, 0, 1) * 100 + x.move(1, 0, 1), 6050);
        SlowerCork y = of(LINE);
        y.cork(1, 1, 1);
        fairIs(y, 999999, new int[] {NONE, NONE, NONE, NONE});
        due("e MILLION", y.fair(1000000, 0), 0);
        due("e -1", y.fair(-1, 0), OUTSIDE);
        due("e 1000001", y.fair(1000001, 0), OUTSIDE);
        due("what 4", y.fair(0, 4), OUTSIDE);
        due("none", new SlowerCork().fair(0, 0), NOT);
        due("none, e -1", new SlowerCork().fair(-1, 0), OUTSIDE);
    }

    private static void fairIs(SlowerCork x, int e, int[] want) {
        for (int what = 0; what < 4; what++) {
            due("fair(" + e + ", " + what + ")", x.fair(e, what), want[what]);
        }
    }

    // From THE SEED 0 on the draws of 100 are 0, 68, 88, 17, 98, 27, 45, 41, ..

    private static void drift() {
        SlowerCork x = of(HALF);
        due("side 0 first", x.drift(9), 1);
        due("at the bridge", x.where(0), 1);
        due("the other is not", x.where(1), 0);
        due("two draws", x.seed(0), 1406932606);
        due("ended", x.drift(200), 1);
        due("no draw", x.seed(0), 0);
        due("no minute", x.begin(), 1);
        due("anew", x.where(0), 0);
        due("told(5)", x.told(5), 0);
        x.cork(0, 0, 1);
        due("waxed", x.drift(1), 1);
        due("nothing more behind the bridge", x.seed(0), 1406932606);
        x.cork(1, 0, 2);
        due("heavy", x.drift(1), 1);
        due("does not go in minute 1", x.seed(0), 12345);
        SlowerCork y = of(STAYS_FIRST);
        due("side 1 first", y.drift(1), 2);
        y.seed(0);
        y.cork(0, 0, 1);
        due("both", y.drift(1), 3);
        due("three draws", y.seed(0), 654583775);
        due("n 0", y.drift(0), OUTSIDE);
        due("n 201", y.drift(201), OUTSIDE);
        due("none", new SlowerCork().drift(1), NOT);
        due("bridge", of("bridge;").drift(1), NOT);
        due("none, n", new SlowerCork().drift(0), OUTSIDE);
    }

    private static void driftByMinutes() {
        SlowerCork x = of("place to 0 99 to 1 1;bridge;");
        x.cork(0, 2, 2);
        due("not yet", x.where(0), NONE);
        due("goes on", x.drift(1), 0);
        due("still not", x.where(0), NONE);
        x.drift(1);
        due("set in", x.where(0), 0);
        due("not gone yet", x.seed(1406932606), 1406932606);
        x.drift(1);
        due("both go", x.seed(0), 1449466924);
        x.cork(0, 0, 2);
        x.cork(1, 2, 30);
        x.drift(3);
        due("heavy by minutes of its own", x.seed(0), 0);
        x.drift(1);
        due("minute 4 is its 2nd", x.seed(0), 12345);
        due("told(5)", x.told(5), 4);
        SlowerCork y = of(HALF);
        y.stone(0, true);
        due("the stone's ahead", y.drift(200), 2);
        due("in minute 3", y.told(5), 3);
        due("six draws", y.seed(0), 1109335178);
        SlowerCork z = of("place to 0 100;bridge;");
        due("for ever", z.drift(200) + z.drift(200), 0);
        due("minute 400", z.begin(), 400);
    }

    private static void whereIsIt() {
        SlowerCork x = of(LINE);
        due("side 0", x.where(0), 0);
        x.drift(1);
        due("a minute on", x.where(0) * 10 + x.where(1), 11);
        due("side 2", x.where(2), UNKNOWN);
        due("side -1", x.where(-1), UNKNOWN);
        due("none, side 2", new SlowerCork().where(2), UNKNOWN);
        due("bridge", of("bridge;").where(1), NOT);
        due("begin", x.begin(), 1);
        due("at the beginning", x.where(0) * 10 + x.where(1), 0);
        due("begin again", x.begin(), 0);
        due("begin of none", new SlowerCork().begin(), 0);
    }

    private static void morning() {
        SlowerCork x = of(HALF);
        due("one won", x.morning(1), 1);
        x.seed(0);
        due("one of four: two lost, one both at once", x.morning(4), 1);
        due("eight draws", x.seed(0), 1293799192);
        SlowerCork y = of("place to 0 99 to 1 1;bridge;");
        y.cork(0, 2, 3);
        y.drift(2);
        y.morning(40);
        due("the drift stays", y.told(5), 2);
        due("not set in", y.where(0), NONE);
        due("n 0", y.morning(0), OUTSIDE);
        due("n 41", y.morning(41), OUTSIDE);
        due("none, n 41", new SlowerCork().morning(41), OUTSIDE);
        due("bridge", of("bridge;").morning(1), NOT);
        SlowerCork z = of("place to 0 100;bridge;");
        due("none comes", z.morning(40), 0);
    }

    private static void logs() {
        SlowerCork x = of(POOLS);
        due("side 2", x.log(2, 0), UNKNOWN);
        due("place 4", x.log(0, 4), UNKNOWN);
        due("place 13", x.log(0, 13), UNKNOWN);
        due("place -1", x.log(0, -1), UNKNOWN);
        due("the bridge", x.log(0, 3), 1);
        for (int i = 2; i <= 40; i++) {
            due("log " + i, x.log(0, 12), i);
        }
        due("log 41", x.log(0, 0), FULL);
        due("place 4 when full", x.log(0, 4), UNKNOWN);
        due("the other's", x.log(1, 12), 1);
        due("clear", x.clear(), 41);
        due("clear again", x.clear(), 0);
        due("nowhere, of none", new SlowerCork().log(0, 12), 1);
        due("place 0, of none", new SlowerCork().log(0, 0), UNKNOWN);
    }

    private static void judged(SlowerCork x, int[] log, int want) {
        x.clear();
        for (int p : log) {
            x.log(1, p);
        }
        due("judge of " + java.util.Arrays.toString(log), x.judge(1), want);
    }

    private static void judge() {
        SlowerCork x = of(POOLS);
        judged(x, new int[] {}, NONE);
        judged(x, new int[] {0, 0, 1, 2, 1, 2, 2}, NONE);
        judged(x, new int[] {0, 3, 3, 3}, NONE);
        judged(x, new int[] {0, 3, 0}, 2);
        judged(x, new int[] {1}, 0);
        judged(x, new int[] {12}, 0);
        judged(x, new int[] {0, 12}, 1);
        judged(x, new int[] {0, 1, 1}, 2);
        x.stone(1, true);
        judged(x, new int[] {0, 1, 1}, NONE);
        x.stone(1, false);
        x.cork(1, 0, 1);
        judged(x, new int[] {0, 2, 1, 1}, NONE);
        judged(x, new int[] {0, 3, 3}, NONE);
        judged(x, new int[] {0, 2, 3}, 2);
        x.cork(1, 0, 2);
        judged(x, new int[] {0, 0, 3, 3}, NONE);
        judged(x, new int[] {0, 3}, 1);
        judged(x, new int[] {0, 0, 1, 2}, 3);
        x.cork(1, 2, 1);
        x.cork(1, 1, 1);
        judged(x, new int[] {12, 1, 1, 2}, NONE);
        judged(x, new int[] {12, 1, 1, 1}, 3);
        judged(x, new int[] {12, 12}, 1);
        judged(x, new int[] {1, 1}, 0);
        due("side 2", x.judge(2), UNKNOWN);
        SlowerCork weak = of("place to 1 1 to 2 99;place to 2 100;bridge;");
        weak.stone(0, true);
        judged(weak, new int[] {0, 0}, 1);
        weak.dig(0, 1, 0, 1);
        judged(weak, new int[] {0, 0}, NONE);
        SlowerCork bridge = of("bridge;");
        judged(bridge, new int[] {0, 0}, NONE);
        judged(new SlowerCork(), new int[] {12}, 0);
    }

    private static void seed() {
        SlowerCork x = new SlowerCork();
        due("seed", x.seed(MAX), 0);
        due("seed -1", x.seed(-1), OUTSIDE);
        due("seed MIN", x.seed(MIN), OUTSIDE);
        due("seed again", x.seed(5), MAX);
        due("and again", x.seed(5), 5);
    }

    private static void images() {
        SlowerCork x = of(UNLIKE);
        x.cork(1, 1, 1);
        x.cork(1, 2, 2);
        x.stone(0, true);
        x.dig(1, 0, 1, 20);
        x.seed(4);
        due("keep", x.keep(1), 1);
        due("keep the other", x.goBack(0), NOT);
        x.cork(1, 1, 0);
        x.cork(0, 0, 2);
        x.stone(0, false);
        x.stone(1, true);
        x.dig(1, 1, 0, 40);
        x.seed(5);
        x.run(0, 1);
        x.log(0, 0);
        x.keep(0);
        due("go back", x.goBack(1), 1);
        due("stones", x.told(7), 1);
        due("C", x.move(1, 0, 1) * 100 + x.move(1, 1, 1), 3070);
        due("the stone is felt", x.comes(0, 0, 1), 400000000);
        due("the digging is felt", x.comes(0, 1, 1), 300000000);
        due("where", x.where(1), NONE);
        due("runs stay", x.told(1), 1);
        due("logs stay", x.told(3), 1);
        due("the seed", x.seed(6), 4);
        due("place", x.cork(1, 1, 1), 1);
        due("minute", x.cork(1, 2, 2), 2);
        due("kind", x.cork(0, 0, 0), 0);
        due("the other image", x.goBack(0), 1);
        due("its stones", x.told(7), 2);
        due("its kind", x.cork(0, 0, 0), 2);
        for (int i : new int[] {-1, 2, MAX, MIN}) {
            due("keep(" + i + ")", x.keep(i), UNKNOWN);
            due("goBack(" + i + ")", x.goBack(i), UNKNOWN);
        }
        SlowerCork y = of(LINE);
        y.drift(1);
        y.keep(0);
        y.drift(1);
        due("again and again", y.goBack(0) + y.goBack(0), 2);
        due("the minute", y.told(5), 1);
        due("where it was", y.where(0), 1);
        due("keep of none", new SlowerCork().keep(0), 1);
    }

    public static void main(String[] args) {
        newObject();
        feed();
        streamFine();
        streamFaults();
        streamBeginsAnew();
        told();
        move();
        cork();
        comesAtKept();
        known();
        later();
        best();
        mixed();
        stone();
        most();
        runs();
        dig();
        fair();
        drift();
        driftByMinutes();
        whereIsIt();
        morning();
        logs();
        judge();
        seed();
        images();
        System.out.println(wrong == 0 ? "all answers are as due" : wrong + " answers are not as due");
        if (wrong != 0) {
            System.exit(1);
        }
    }
}
