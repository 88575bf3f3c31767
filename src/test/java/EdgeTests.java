import java.util.Arrays;

/**
 * What the document's numbers bound, from both sides, by what is answered: the last minute that counts and the one behind it, the
 * chance at which a draw goes on, the least digging and one less. What is refused is looked at in RefusalTests, texts in TextTests.
 */
public final class EdgeTests {
    private static final int NONE = -1, UNKNOWN = -1000000001, NOT = -1000000003, FULL = -1000000004;
    private static final int MILLION = 1000000, BILLION = 1000000000;
    private static final int PLAIN = 0, WAXED = 1, HEAVY = 2;
    private static final int NOWHERE = 12;

    private static final String HALF = "place to 1 50 to 0 50;bridge;";
    private static final String LINE = "place to 1 100;place to 2 100;bridge;";
    private static final String ROUND = "place to 0 100;bridge;";
    /** One of a hundred comes each minute: at minute 200 there is still much to come. */
    private static final String SLOW = "place to 0 99 to 1 1;bridge;";
    /** From 0 to 10 on, three of a hundred each minute: few have come by minute 200. */
    private static final String LONG = chain(11, 3);

    private static int wrong = 0;

    private static void due(String call, long got, long want) {
        if (got != want) {
            wrong++;
            System.out.println(call + " answered " + got + ", due is " + want);
        }
    }

    private static String chain(int places, int c) {
        StringBuilder s = new StringBuilder();
        for (int p = 0; p < places; p++) {
            s.append("place to ").append(p + 1).append(' ').append(c).append(" to ").append(p).append(' ').append(100 - c).append(';');
        }
        return s.append("bridge;").toString();
    }

    private static void feedText(SlowerCork x, String text) {
        for (int i = 0; i < text.length(); i += 8) {
            int n = Math.min(8, text.length() - i);
            long bytes = 0;
            for (int k = 0; k < n; k++) {
                bytes = bytes << 8 | text.charAt(i + k) & 255;
            }
            x.feed(n, bytes);
        }
    }

    private static SlowerCork of(String text) {
        SlowerCork x = new SlowerCork();
        feedText(x, text);
        int answer = x.stream();
        if (answer < 0) {
            due("stream() of " + text, answer, 0);
        }
        return x;
    }

    // ---- the stream: promises 1, 3, 5, 6

    private static void aNewObject() {
        SlowerCork x = new SlowerCork();
        for (int what = 0; what < 8; what++) {
            due("new: told(" + what + ")", x.told(what), 0);
        }
        due("new: fault()", x.fault(), NONE);
        due("new: seed", x.seed(0), 0);
        due("new: clear, forget, begin", x.clear() + x.forget() + x.begin(), 0);
        due("new: fit as it is", x.fit(NONE), BILLION);
        due("new: stoned", x.stoned(), NONE);
        due("new: no image 0", x.goBack(0), NOT);
        due("new: no image 1", x.goBack(1), NOT);
        due("new: nothing at all told", x.stream(), 0);
    }

    private static void countsFromNoneToAll() {
        SlowerCork x = of(LINE);
        for (int i = 1; i <= 12; i++) {
            due("run " + i, x.run(i % 2, i == 12 ? 200 : i), i);
            due("told(1)", x.told(1), i);
        }
        due("a 13th run", x.run(0, 1), FULL);
        due("told(1) then", x.told(1), 12);
        for (int i = 1; i <= 40; i++) {
            due("log of 0: " + i, x.log(0, 0), i);
            due("told(3)", x.told(3), i);
            due("told(4)", x.told(4), i - 1);
            due("log of 1: " + i, x.log(1, 2), i);
            due("told(4) then", x.told(4), i);
        }
        due("a 41st of 0", x.log(0, 0), FULL);
        due("a 41st of 1", x.log(1, 0), FULL);
        due("told(3), told(4)", x.told(3) * 100 + x.told(4), 4040);
        due("forget", x.forget(), 12);
        due("a first again", x.run(1, 1), 1);
        due("clear", x.clear(), 80);
        due("a first again", x.log(1, NOWHERE), 1);
        due("none of the other", x.told(3), 0);
    }

    private static void setsFromNoneToAll() {
        SlowerCork x = of(LONG);
        due("12 places", x.told(0), 12);
        due("from all the bridge can be come to", x.told(6), 0);
        due("no stones", x.told(7), 0);
        for (int p = 10; p >= 0; p--) {
            due("stone " + p, x.stone(p, true), 0);
            due("told(7)", x.told(7), 2048 - (1 << p));
        }
        due("a stone keeps none for ever", x.told(6), 0);
        due("the bridge has none", x.stone(11, true), UNKNOWN);
        due("told(7) then", x.told(7), 2047);
        due("from none but the bridge", of("place to 0 100;".repeat(11) + "bridge;").told(6), 2047);
        due("the bridge alone", of("bridge;").told(6), 0);
        SlowerCork y = of("place to 1 100;place to 0 99 to 2 1;place to 2 100;place to 2 99 to 4 1;bridge;");
        due("0, 1, 2 are kept", y.told(6), 7);
        y.dig(3, 1, 0, 1);
        due("one of a hundred is enough, and is left", y.told(6), 7);
    }

    private static void movesAsTold() {
        SlowerCork x = of("place to 3 97 to 1 1 to 2 1 to 0 1;place to 3 100;place to 0 100;bridge;");
        int[] goals = {3, 1, 2, 0};
        int[] chances = {97, 1, 1, 1};
        due("four moves", x.move(0, NONE, 0) * 10 + x.move(0, NONE, 1), 44);
        for (int i = 0; i < 4; i++) {
            due("P of " + i, x.move(0, i, 0), goals[i]);
            due("C of " + i, x.move(0, i, 1), chances[i]);
        }
        due("a fifth", x.move(0, 4, 0), UNKNOWN);
        due("a second of place 1", x.move(1, 1, 0), UNKNOWN);
        due("none of the bridge", x.move(3, NONE, 0), 0);
        due("the bridge's first", x.move(3, 0, 0), UNKNOWN);
        x.stone(0, true);
        due("without the stone", x.move(0, 0, 1) * 10 + x.move(0, NONE, 0), 974);
        x.dig(0, 0, 3, 96);
        due("by digging", x.move(0, 0, 1) * 100 + x.move(0, 3, 1), 197);
    }

    /** Twelve places of four moves each, no two with the same first C. */
    private static String fourMovesEach() {
        StringBuilder s = new StringBuilder();
        for (int p = 0; p < 11; p++) {
            int c = 16 + p;
            s.append("place");
            for (int i = 0; i < 4; i++) {
                s.append(" to ").append((p + 1 + 2 * i) % 12).append(' ').append(i == 0 ? c : i == 1 ? 30 - p : 27);
            }
            s.append(';');
        }
        return s.append("bridge;").toString();
    }

    private static void movesOfEachPlace() {
        SlowerCork x = of(fourMovesEach());
        due("twelve places", x.told(0), 12);
        for (int p = 0; p < 11; p++) {
            for (int i = 0; i < 4; i++) {
                due("P " + p + ", " + i, x.move(p, i, 0), (p + 1 + 2 * i) % 12);
                due("C " + p + ", " + i, x.move(p, i, 1), i == 0 ? 16 + p : i == 1 ? 30 - p : 27);
            }
        }
        for (int p = 0; p < 11; p++) {
            due("dug at " + p, x.dig(p, 1, 3, p + 1), 28 + p);
            due("less at " + p, x.move(p, 1, 1), 29 - 2 * p);
            x.stone(p, true);
        }
        for (int p = 0; p < 11; p++) {
            int held = Math.min(20, 15 + p);
            int[] parts = {16 + p - held, 29 - 2 * p, 27, 28 + p};
            due("held at " + p, x.at(PLAIN, p, 1, p), held * (BILLION / 100));
            for (int i = 0; i < 4; i++) {
                due("from " + p + " by " + i, x.at(PLAIN, p, 1, (p + 1 + 2 * i) % 12), parts[i] * (BILLION / 100));
            }
        }
    }

    private static void streamSetsAllAnew() {
        SlowerCork x = of(LINE);
        for (int side = 0; side < 2; side++) {
            x.cork(side, 0, 1 + side);
            x.cork(side, 1, 1);
            x.cork(side, 2, 30);
            x.log(side, 0);
        }
        x.stone(0, true);
        x.stone(1, true);
        x.run(0, 2);
        x.keep(0);
        x.keep(1);
        x.seed(99);
        x.drift(20);
        feedText(x, LINE);
        due("the same again", x.stream(), 3);
        due("THE TEXT is empty", x.told(2), 0);
        due("no runs, logs, minute, stones", x.told(1) + x.told(3) + x.told(4) + x.told(5) + x.told(7), 0);
        due("both at place 0", x.where(0) * 10 + x.where(1), 0);
        due("both come at 2", x.later(2), MILLION);
        for (int side = 0; side < 2; side++) {
            due("image " + side + " is gone", x.goBack(side), NOT);
            for (int what = 0; what < 3; what++) {
                due("cork " + side + ", " + what, x.cork(side, what, 0), 0);
            }
        }
        due("no stone is felt", x.comes(PLAIN, 0, 2), BILLION);
        due("THE SEED is not told of", x.seed(0), 99);
    }

    // ---- odds: promises 8 to 12

    /** In even minutes alone, the first one being 1; waxed twice in each. */
    private static void minutesOfKinds() {
        SlowerCork x = of(chain(11, 99).replace("99", "100").replaceAll(" to \\d+ 1;", ";"));
        for (int t = 0; t <= 24; t++) {
            due("plain at " + t, x.at(PLAIN, 0, t, Math.min(t, 11)), BILLION);
            due("waxed at " + t, x.at(WAXED, 0, t, Math.min(2 * t, 11)), BILLION);
            due("heavy at " + t, x.at(HEAVY, 0, t, Math.min(t / 2, 11)), BILLION);
            due("plain by " + t, x.comes(PLAIN, 0, t), t < 11 ? 0 : BILLION);
            due("waxed by " + t, x.comes(WAXED, 0, t), t < 6 ? 0 : BILLION);
            due("heavy by " + t, x.comes(HEAVY, 0, t), t < 22 ? 0 : BILLION);
        }
        for (int kind = 0; kind < 3; kind++) {
            due("at the bridge from 0 on", x.comes(kind, 11, 0), BILLION);
            due("and at 200", x.comes(kind, 11, 200), BILLION);
            due("set in at 0", x.at(kind, 4, 0, 4), BILLION);
            due("all at 200", x.comes(kind, 0, 200), BILLION);
        }
    }

    /** Each move's part is cut; what is left goes by the last one, whichever that is. */
    private static void partsAreCut() {
        long stays = BILLION;
        SlowerCork x = of("place to 0 33 to 1 33 to 2 34;place to 1 100;bridge;");
        long one = 0;
        long come = 0;
        for (int t = 0; t <= 20; t++) {
            due("stays at " + t, x.at(PLAIN, 0, t, 0), stays);
            due("kept at " + t, x.kept(PLAIN, 0, t), one);
            due("comes by " + t, x.comes(PLAIN, 0, t), come);
            long part = stays * 33 / 100;
            one += part;
            come += stays - 2 * part;
            stays = part;
        }
        SlowerCork y = of("place to 1 1 to 0 99;bridge;");
        SlowerCork z = of("place to 0 1 to 1 99;bridge;");
        long left = BILLION;
        long first = BILLION;
        for (int t = 0; t <= 200; t++) {
            due("by the first, by " + t, y.comes(PLAIN, 0, t), BILLION - left);
            due("by the last, by " + t, z.comes(PLAIN, 0, t), BILLION - first);
            left -= left / 100;
            first = first / 100;
        }
        due("199 is not 200", y.comes(PLAIN, 0, 199) == y.comes(PLAIN, 0, 200) ? 1 : 0, 0);
    }

    private static void knownFromBothSides() {
        // plain 15, 27.75, 38.5875 of a hundred; waxed 27.75, 47.799375: 127.5, then 200.49375 of a thousand apart
        SlowerCork x = of("place to 1 15 to 0 85;bridge;");
        due("127 apart", x.known(WAXED, 0, 127), 1);
        due("127.5 is cut", x.known(WAXED, 0, 128), 2);
        due("200 apart", x.known(WAXED, 0, 200), 2);
        due("201 apart", x.known(WAXED, 0, 201), 3);
        due("heavy is later: 150", x.known(HEAVY, 0, 150), 1);
        due("1 apart", x.known(HEAVY, 0, 1), 1);
        SlowerCork line = of(LINE);
        due("1000 apart", line.known(WAXED, 0, 1000), 1);
        due("1000 apart, heavy", line.known(HEAVY, 0, 1000), 2);
        due("a plain one is never known", line.known(PLAIN, 0, 1), NONE);
        due("at the bridge", line.known(HEAVY, 2, 1), NONE);
        SlowerCork almost = of("place to 1 99 to 0 1;bridge;");
        due("990 apart", almost.known(HEAVY, 0, 990), 1);
        due("991 apart", almost.known(HEAVY, 0, 991), NONE);
        SlowerCork slow = of(LONG);
        int apart = (slow.comes(WAXED, 0, 200) - slow.comes(PLAIN, 0, 200)) / MILLION;
        int ahead = (slow.comes(WAXED, 0, 199) - slow.comes(PLAIN, 0, 199)) / MILLION;
        due("it grows to the last", apart > ahead ? 1 : 0, 1);
        due("known at the last minute", slow.known(WAXED, 0, apart), 200);
        due("not by the last minute", slow.known(WAXED, 0, apart + 1), NONE);
        due("known ahead of the last", slow.known(WAXED, 0, ahead) <= 199 ? 1 : 0, 1);
    }

    /** LATER of a cork with one row of what has come, the other's row behind it, by a last minute. */
    private static long late(long[] own, long[] other, int last) {
        long sum = 0;
        for (int u = 1; u <= last; u++) {
            sum += (other[u] - other[u - 1]) * (BILLION - own[u]) / BILLION;
        }
        return sum / 1000;
    }

    private static long atOnce(long[] one, long[] other, int last) {
        long sum = 0;
        for (int u = 1; u <= last; u++) {
            sum += (one[u] - one[u - 1]) * (other[u] - other[u - 1]) / BILLION;
        }
        return sum / 1000;
    }

    /** What has come by each minute, set in at a minute, if c of a hundred stay. */
    private static long[] rowOf(int c, int start) {
        long[] row = new long[202];
        long stays = BILLION;
        for (int u = start + 1; u < row.length; u++) {
            stays = stays * c / 100;
            row[u] = BILLION - stays;
        }
        return row;
    }

    private static long[] slowRow(int start) {
        return rowOf(99, start);
    }

    private static String twoThatStay(int c0, int c1) {
        return "place to 0 " + c0 + " to 2 " + (100 - c0) + ";place to 1 " + c1 + " to 2 " + (100 - c1) + ";bridge;";
    }

    /** Sums of many suits, some of which are 999 or 0 beyond whole thousands; fair within just what they are apart, not within 1 less. */
    private static void sumsOfManySuits() {
        for (int c0 = 1; c0 < 100; c0 += 7) {
            for (int c1 = 2; c1 < 100; c1 += 9) {
                SlowerCork x = of(twoThatStay(c0, c1));
                x.cork(1, 1, 1);
                for (int start0 = 0; start0 <= 30; start0 += 6) {
                    int start1 = (start0 * 7 + c1) % 31;
                    x.cork(0, 2, start0);
                    x.cork(1, 2, start1);
                    long[] first = rowOf(c0, start0);
                    long[] second = rowOf(c1, start1);
                    String which = " of " + c0 + ", " + start0 + " and " + c1 + ", " + start1;
                    long late0 = late(first, second, 200);
                    long late1 = late(second, first, 200);
                    due("later 0" + which, x.later(0), late0);
                    due("later 1" + which, x.later(1), late1);
                    due("both" + which, x.later(2), atOnce(first, second, 200));
                    int apart = (int) Math.abs(late0 - late1);
                    due("fair within " + apart + which, x.fair(apart, 0), 0);
                    due("not within 1 less" + which, apart > 0 && x.fair(apart - 1, 0) == 0 ? 1 : 0, 0);
                }
            }
        }
    }

    private static void laterByTheLastMinute() {
        for (int start = 0; start <= 30; start += 10) {
            SlowerCork x = of(SLOW);
            x.cork(1, 2, start);
            long[] first = slowRow(0);
            long[] second = slowRow(start);
            due("later 0, " + start, x.later(0), late(first, second, 200));
            due("later 1, " + start, x.later(1), late(second, first, 200));
            due("both, " + start, x.later(2), atOnce(first, second, 200));
            due("199 would be less", late(first, second, 199) < late(first, second, 200) ? 1 : 0, 1);
            due("201 would be more", late(first, second, 201) > late(first, second, 200) ? 1 : 0, 1);
        }
    }

    /** A cork set in at minute m comes m minutes later: not by then, not at once. */
    private static void laterByTheMinuteSetIn() {
        SlowerCork x = of(LINE);
        int[] minutes = {0, 1, 2, 29, 30};
        for (int first : minutes) {
            for (int second : minutes) {
                x.cork(0, 2, first);
                x.cork(1, 2, second);
                due("later 0: " + first + ", " + second, x.later(0), first > second ? MILLION : 0);
                due("later 1: " + first + ", " + second, x.later(1), first < second ? MILLION : 0);
                due("both: " + first + ", " + second, x.later(2), first == second ? MILLION : 0);
            }
        }
        x.cork(0, 0, HEAVY);
        x.cork(0, 2, 28);
        x.cork(1, 2, 30);
        due("heavy comes 4 minutes behind its own minute", x.later(2), MILLION);
        x.cork(0, 2, 29);
        due("also if that is odd", x.later(0), MILLION);
    }

    // ---- at best: promises 13, 14

    private static void bestOfAllAheadOfTheBridge() {
        for (int places = 2; places <= 12; places++) {
            StringBuilder text = new StringBuilder();
            for (int p = 0; p < places - 1; p++) {
                text.append("place to ").append(p + 1).append(" 100;");
            }
            SlowerCork x = of(text + "bridge;");
            x.cork(1, 1, places - 2);
            due("the last one ahead of the bridge", x.best(0, 10, 0), places - 2);
            due("at once", x.best(0, 10, 1) * 10 + x.best(0, 10, 2), 0);
            x.cork(1, 2, 1);
            due("as soon as the other, one place farther", x.best(0, 10, 0), Math.max(0, places - 3));
            x.cork(1, 2, 30);
            due("of like ones the first", x.best(0, 0, 0) * 10 + x.best(0, 10, 1), 0);
        }
        SlowerCork y = of("place to 3 50 to 0 50;place to 3 51 to 1 49;place to 3 51 to 2 49;bridge;");
        due("least, and first of like ones", y.best(1, 0, 0), 1);
        due("for the other likewise", y.best(0, 0, 0), 1);
        due("what it is then", y.best(0, 0, 2) < y.later(0) ? 1 : 0, 1);
    }

    /** The other one's cork is as it is; of its own the kind alone. */
    private static void bestAgainstTheOtherAsItIs() {
        String line = "place to 1 100;place to 2 100;place to 3 100;place to 4 100;place to 5 100;bridge;";
        for (int side = 0; side < 2; side++) {
            int[] quicker = {1, 2, 1};
            int[] slower = {1, 1, 2};
            for (int kind = 0; kind < 3; kind++) {
                for (int otherKind = 0; otherKind < 3; otherKind++) {
                    for (int start = 0; start <= 2; start++) {
                        SlowerCork x = of(line);
                        x.cork(side, 0, kind);
                        x.cork(side, 1, 4);
                        x.cork(side, 2, 17);
                        x.cork(1 - side, 0, otherKind);
                        x.cork(1 - side, 1, 2);
                        x.cork(1 - side, 2, start);
                        int comes = start + (3 * slower[otherKind] + quicker[otherKind] - 1) / quicker[otherKind];
                        int place = 0;
                        while (place < 4 && ((5 - place) * slower[kind] + quicker[kind] - 1) / quicker[kind] > comes) {
                            place++;
                        }
                        String which = side + " of a kind " + kind + " against " + otherKind + " from " + start;
                        due("best for " + which, x.best(side, 10, 0), place);
                        due("at minute 0: " + which, x.best(side, 10, 1), 0);
                        due("never later: " + which, x.best(side, 10, 2), 0);
                    }
                }
            }
        }
    }

    private static void mixedUpToTheBridge() {
        SlowerCork x = of("place to 3 10 to 0 90;place to 3 50 to 1 50;place to 3 90 to 2 10;bridge;");
        for (int p = 0; p <= 3; p++) {
            for (int n = 1; n <= 3; n++) {
                int value = x.mixed(p, n, 0);
                due("mixed(" + p + ", " + n + ") is refused: " + value, value == UNKNOWN ? 1 : 0, p + n > 3 ? 1 : 0);
                for (int what = 1; what <= 6 && p + n <= 3; what++) {
                    // the last of them is the quickest: both choose it alone
                    due("share " + what + " of (" + p + ", " + n + ")", x.mixed(p, n, what), (what - 1) % 3 == n - 1 ? MILLION : 0);
                }
            }
        }
        due("two at 90: 9 of 99 are later", x.mixed(2, 1, 0), 90000);
        x.cork(0, 1, 1);
        x.cork(0, 2, 30);
        x.cork(1, 2, 7);
        due("minute 0 and their own places", x.mixed(2, 1, 0), 90000);
        x.cork(1, 0, WAXED);
        due("kinds as they are", x.mixed(2, 1, 0) > 90000 ? 1 : 0, 1);
    }

    /** Each place is beaten by another one: shares as fractions, cut. */
    private static void mixedShares() {
        // fears of side 0: row 0 at 2; row 1 at 1 or 3, one half each
        SlowerCork x = of("place to 3 100;place to 4 50 to 2 50;place to 3 100;place to 4 100;bridge;");
        // 0 by 0: 0; 0 by 1: 500; 1 by 0: 500; 1 by 1: 250. Shares q of 0: 500 (1 - q) = 500 q + 250 (1 - q): q = 1 / 3
        int[] want = {333333, 333333, 666666, 0, 333333, 666666, 0};
        for (int what = 0; what <= 6; what++) {
            due("shares, " + what, x.mixed(0, 2, what), want[what]);
        }
        due("of one place all", x.mixed(1, 1, 1), MILLION);
        due("none beyond it", x.mixed(1, 1, 2) + x.mixed(1, 1, 3) + x.mixed(1, 1, 5) + x.mixed(1, 1, 6), 0);
        due("one alone: all of it", of(LINE).mixed(1, 1, 4), MILLION);
        SlowerCork pools = of("place to 0 100;place to 1 100;place to 2 100;bridge;");
        due("none comes: the first of both", pools.mixed(0, 3, 1) + pools.mixed(0, 3, 4), 2 * MILLION);
        due("worth nothing", pools.mixed(0, 3, 0), 0);
    }

    // ---- stones, digging: promises 15 to 22

    /** 20 of a hundred, but at most C of the first move less 1. */
    private static void howMuchAStoneHolds() {
        for (int c = 1; c <= 99; c++) {
            SlowerCork x = of("place to 1 " + c + " to 2 " + (100 - c) + ";place to 1 100;bridge;");
            int held = Math.min(20, c - 1);
            x.stone(0, true);
            due("held of " + c, x.at(PLAIN, 0, 1, 0), held * (BILLION / 100));
            due("gone of " + c, x.at(PLAIN, 0, 1, 1), (c - held) * (BILLION / 100));
            due("the other's of " + c, x.at(PLAIN, 0, 1, 2), (100 - c) * (BILLION / 100));
            due("none held by another's stone", x.at(PLAIN, 1, 1, 1), BILLION);
            x.stone(0, false);
            due("taken of " + c, x.at(PLAIN, 0, 1, 0), 0);
        }
        SlowerCork whole = of("place to 1 100;bridge;");
        whole.stone(0, true);
        due("of 100", whole.at(PLAIN, 0, 1, 0), 200000000);
        due("waxed twice", whole.at(WAXED, 0, 1, 0), 40000000);
        due("heavy not in 1", whole.at(HEAVY, 0, 1, 0), BILLION);
        SlowerCork self = of("place to 0 50 to 1 50;bridge;");
        self.stone(0, true);
        due("where it stays anyway", self.at(PLAIN, 0, 1, 0), 500000000);
    }

    private static void mostOfAllAheadOfTheBridge() {
        SlowerCork x = of("place to 2 100;place to 2 100;bridge;");
        x.cork(1, 1, 1);
        due("its own", x.most(0, 0), 0);
        due("a fifth of a fifth is not at once", x.most(0, 1) > 0 ? 1 : 0, 1);
        due("the other's, at the last place", x.most(1, 0), 1);
        due("more too", x.most(1, 1), x.most(0, 1));
        x.stone(1, true);
        due("taken: less", x.most(1, 0), 1);
        due("with its sign", x.most(1, 1) < 0 ? 1 : 0, 1);
        x.stone(0, true);
        due("both lie there: of like ones the least", x.most(0, 0), 0);
        SlowerCork y = of("place to 2 50 to 1 50;place to 0 50 to 2 50;bridge;");
        int[] more = new int[2];
        for (int p = 0; p < 2; p++) {
            int now = y.later(0);
            y.stone(p, true);
            more[p] = y.later(0) - now;
            y.stone(p, false);
        }
        int which = Math.abs(more[1]) > Math.abs(more[0]) ? 1 : 0;
        due("as it is when laid", y.most(0, 0), which);
        due("by how much", y.most(0, 1), more[which]);
        SlowerCork z = of(ROUND);
        due("nothing changes: the first, by 0", z.most(0, 0) * 10 + z.most(1, 1), 0);
    }

    private static void fitOfRuns() {
        SlowerCork x = of(SLOW);
        long[] row = slowRow(0);
        for (int t = 1; t <= 200; t++) {
            x.forget();
            x.run(0, t);
            due("came at " + t, x.fit(NONE), BILLION / MILLION * ((row[t] - row[t - 1]) / 1000));
            if (t % 100 == 0) {
                x = of(SLOW);
            }
        }
        x = of(SLOW);
        long how = BILLION;
        for (int i = 1; i <= 12; i++) {
            x.run(0, i);
            how = Math.max(1, how * ((row[i] - row[i - 1]) / 1000) / MILLION);
            due("run by run, " + i, x.fit(NONE), how);
        }
        due("at least 1", how, 1);
        SlowerCork line = of(LINE);
        line.run(1, 1);
        due("all of them", line.fit(NONE), BILLION);
        line.run(1, 2);
        due("none: 1", line.fit(NONE), 1);
        line.run(0, 2);
        due("1 times all", line.fit(NONE), 1);
        // odds of 1000 are 1 of a million, those of 999 none
        SlowerCork few = of("place to 0 1 to 1 99;bridge;");
        few.run(0, 4);
        due("by 4 990 more", few.comes(PLAIN, 0, 4) - few.comes(PLAIN, 0, 3), 990);
        due("cut to none: 1", few.fit(NONE), 1);
        few.forget();
        few.run(0, 3);
        due("99000 of them", few.fit(NONE), 99000);
    }

    private static void stonedOnlyIfGreater() {
        SlowerCork x = of("place to 2 100;place to 2 100;bridge;");
        due("no runs: none is greater", x.stoned(), NONE);
        x.run(0, 1);
        x.run(1, 1);
        due("both at once: none", x.stoned(), NONE);
        x.forget();
        x.run(1, 2);
        due("the last one ahead of the bridge", x.stoned(), 1);
        x.run(0, 2);
        due("both would: 1 each, as it is", x.fit(0) * 10 + x.fit(1), 11);
        due("not greater", x.stoned(), NONE);
        SlowerCork y = of("place to 1 100;place to 2 100;bridge;");
        y.run(0, 3);
        due("like ones", y.fit(0) == y.fit(1) ? 1 : 0, 1);
        due("of like ones the least", y.stoned(), 0);
        y.stone(0, true);
        due("one lies there: another makes it less", y.stoned(), y.fit(1) > y.fit(NONE) ? 1 : NONE);
        y.forget();
        y.run(0, 2);
        due("taken it fits better", y.stoned(), 0);
    }

    private static void digUpToTheLast() {
        for (int c = 2; c <= 99; c++) {
            String text = "place to 1 " + c + " to 0 " + (100 - c) + ";bridge;";
            SlowerCork x = of(text);
            due("all of " + c, x.dig(0, 0, 1, c), NOT);
            due("is as it was", x.move(0, 0, 1) * 100 + x.move(0, 1, 1), c * 100 + 100 - c);
            due("all but 1 of " + c, x.dig(0, 0, 1, c - 1), 99);
            due("one is left", x.move(0, 0, 1), 1);
            due("and felt", x.comes(PLAIN, 0, 1), BILLION / 100);
            due("no more", x.dig(0, 0, 1, 1), NOT);
            due("back", x.dig(0, 1, 0, 98), 99);
            due("99 at most can be asked for", x.dig(0, 0, 1, 99), NOT);
        }
        SlowerCork one = of(ROUND);
        due("a move of 100 has no other", one.dig(0, 0, 1, 99), UNKNOWN);
    }

    private static void fairIs(SlowerCork x, int e, int n, int place, int from, int to) {
        due("fair(" + e + ", 0)", x.fair(e, 0), n);
        due("fair(" + e + ", 1)", x.fair(e, 1), place);
        due("fair(" + e + ", 2)", x.fair(e, 2), from);
        due("fair(" + e + ", 3)", x.fair(e, 3), to);
    }

    private static void fairByTwentyAtMost() {
        for (int more = 1; more <= 21; more++) {
            SlowerCork x = of("place to 2 " + (50 + more) + " to 0 " + (50 - more) + ";place to 2 50 to 1 50;bridge;");
            x.cork(1, 1, 1);
            if (more <= 20) {
                fairIs(x, 0, more, 0, 0, 1);
            } else {
                fairIs(x, 0, NONE, NONE, NONE, NONE);
            }
            due("nothing is dug", x.move(0, 0, 1), 50 + more);
            x.cork(1, 1, 0);
            fairIs(x, 0, 0, NONE, NONE, NONE);
        }
    }

    private static void fairWithin() {
        SlowerCork x = of("place to 2 60 to 0 40;place to 2 50 to 1 50;bridge;");
        x.cork(1, 1, 1);
        int apart = Math.abs(x.later(0) - x.later(1));
        fairIs(x, apart, 0, NONE, NONE, NONE);
        due("one less than they are apart", x.fair(apart - 1, 0), 1);
        x.dig(0, 0, 1, 1);
        int byOne = Math.abs(x.later(0) - x.later(1));
        x.dig(0, 1, 0, 1);
        fairIs(x, byOne, 1, 0, 0, 1);
        due("one less than that: another place, or more", x.fair(byOne - 1, 0) * 10 + x.fair(byOne - 1, 1) > 10 ? 1 : 0, 1);
        SlowerCork y = of(LINE);
        y.cork(1, 1, 1);
        fairIs(y, 999999, NONE, NONE, NONE, NONE);
        fairIs(y, MILLION, 0, NONE, NONE, NONE);
    }

    /** 1 at least is left of the move that is dug from. */
    private static void fairLeavesOne() {
        SlowerCork x = of("place to 2 5 to 0 95;place to 1 100;bridge;");
        x.cork(1, 1, 1);
        x.dig(0, 0, 1, 4);
        int least = x.later(1);
        x.dig(0, 1, 0, 4);
        due("side 0's is never later", x.later(0), 0);
        fairIs(x, least, 4, 0, 0, 1);
        fairIs(x, least - 1, NONE, NONE, NONE, NONE);
    }

    /** Of like ones the least place, then the least move, then the least other move. */
    private static void fairInOrder() {
        String way = "place to 1 20 to 2 20 to 3 20 to 4 40;";
        SlowerCork x = of(way + "place to 1 100;place to 2 100;place to 3 100;bridge;");
        x.cork(1, 1, 1);
        int now = x.later(1);
        x.dig(0, 3, 0, 1);
        int dug = x.later(1);
        x.dig(0, 0, 3, 1);
        due("less comes", dug < now ? 1 : 0, 1);
        fairIs(x, dug, 1, 0, 3, 0);
        fairIs(x, now - 1, 1, 0, 3, 0);
        SlowerCork y = of("place to 0 20 to 1 30 to 3 50;place to 1 100;place to 2 100;bridge;");
        y.cork(1, 1, 1);
        fairIs(y, y.later(1) - 1, 1, 0, 0, 1);
    }

    // ---- drifts and draws: promises 7, 23 to 26, 30

    private static long next(long seed) {
        return (seed * 1103515245L + 12345L) & 0x7fffffffL;
    }

    private static int draw(long seedThen, int n) {
        return (int) (seedThen / 65536 % n);
    }

    /** A seed of which the next draw is just this one. */
    private static int seedFor(int want) {
        for (int seed = 0; seed < 100000; seed++) {
            if (draw(next(seed), 100) == want) {
                return seed;
            }
        }
        return -1;
    }

    private static int goneBy(SlowerCork x, int draw) {
        x.begin();
        x.seed(seedFor(draw));
        x.drift(1);
        return x.where(0);
    }

    /** The first move with which C so far are above the draw. */
    private static void whichWayByADraw() {
        SlowerCork x = of("place to 1 1 to 2 49 to 3 49 to 4 1;place to 1 100;place to 2 100;place to 3 100;bridge;");
        int[] draws = {0, 1, 49, 50, 98, 99};
        int[] goals = {1, 2, 2, 3, 3, 4};
        for (int k = 0; k < draws.length; k++) {
            due("draw " + draws[k], goneBy(x, draws[k]), goals[k]);
        }
        SlowerCork y = of("place to 1 50 to 2 50;place to 1 100;bridge;");
        y.stone(0, true);
        int[] stoneDraws = {0, 19, 20, 49, 50, 99};
        int[] stoneGoals = {0, 0, 1, 1, 2, 2};
        for (int k = 0; k < stoneDraws.length; k++) {
            due("with a stone, draw " + stoneDraws[k], goneBy(y, stoneDraws[k]), stoneGoals[k]);
        }
        y.dig(0, 0, 1, 49);
        due("no room for the stone: draw 0", goneBy(y, 0), 1);
        due("no room for the stone: draw 1", goneBy(y, 1), 2);
        y.dig(0, 1, 0, 1);
        due("room for 1: draw 0", goneBy(y, 0), 0);
        due("room for 1: draw 1", goneBy(y, 1), 1);
        due("room for 1: draw 2", goneBy(y, 2), 2);
    }

    private static void seedsWrap() {
        long[] seeds = {0, 1, 12345, 2147483646L, 2147483647L, 1103515245L, 1406932606L, 2147471303L};
        for (long seed : seeds) {
            SlowerCork x = of(ROUND);
            x.cork(1, 2, 30);
            due("seed", x.seed((int) seed), 0);
            long want = seed;
            for (int minute = 1; minute <= 5; minute++) {
                x.drift(1);
                want = next(want);
                due("drawn from " + seed, x.seed((int) want), want);
            }
        }
    }

    /** Side 0's is set in at minute m: not ahead of it, at it without going, then it goes. */
    private static void setInAtItsMinute() {
        for (int m : new int[] {0, 1, 2, 29, 30}) {
            for (int side = 0; side < 2; side++) {
                SlowerCork x = of("place to 1 100;place to 1 100;bridge;");
                x.cork(side, 2, m);
                for (int minute = 0; minute <= m + 2; minute++) {
                    due("THE MINUTE", x.told(5), minute);
                    int at = minute < m ? NONE : minute == m ? 0 : 1;
                    due("where at " + minute + " if set in at " + m, x.where(side), at);
                    due("the other at " + minute, x.where(1 - side), minute == 0 ? 0 : 1);
                    long drawn = Math.max(0, minute - m) + minute;
                    long seed = 0;
                    for (int i = 0; i < drawn; i++) {
                        seed = next(seed);
                    }
                    due("draws by " + minute, x.seed((int) seed), seed);
                    due("goes on", x.drift(1), 0);
                }
            }
        }
    }

    /** Minutes of its own: twice in each, or in even ones alone; nothing more behind the bridge. */
    private static void goesAsItsKind() {
        String line = "place to 1 100;place to 2 100;place to 3 100;place to 4 100;place to 5 100;place to 6 100;bridge;";
        for (int m : new int[] {0, 1, 2, 3}) {
            SlowerCork x = of(line);
            x.cork(0, 0, WAXED);
            x.cork(0, 2, m);
            x.cork(1, 0, HEAVY);
            x.cork(1, 2, m);
            for (int own = 1; own <= 3; own++) {
                due("drift", x.drift(own == 1 ? m + 1 : 1), own == 3 ? 1 : 0);
                due("waxed, its minute " + own, x.where(0), 2 * own);
                due("heavy, its minute " + own, x.where(1), own / 2);
            }
            due("ended", x.drift(200), 1);
            due("at its minute", x.told(5), m + 3);
        }
        SlowerCork odd = of("place to 1 100;bridge;");
        odd.cork(0, 0, WAXED);
        odd.cork(1, 2, 30);
        due("waxed, at once", odd.drift(1), 1);
        due("one draw alone", odd.seed(0), 12345);
    }

    private static void driftTillItIsEnded() {
        SlowerCork x = of(LINE);
        due("one minute: goes on", x.drift(1), 0);
        due("two: both", x.drift(1), 3);
        due("ended", x.drift(1), 3);
        due("no minute more", x.told(5), 2);
        x.begin();
        due("200 at once", x.drift(200), 3);
        due("till it was ended", x.told(5), 2);
        x.cork(1, 1, 1);
        due("side 1 first", x.drift(200), 2);
        due("at minute 1", x.told(5), 1);
        due("side 0 was on its way", x.where(0) * 10 + x.where(1), 12);
        x.cork(1, 2, 2);
        due("side 0 first", x.drift(200), 1);
        due("at minute 2: the other is just set in", x.told(5) * 10 + x.where(1), 21);
        SlowerCork y = of(ROUND);
        due("200 minutes", y.drift(200), 0);
        due("all of them", y.told(5), 200);
        due("and one", y.drift(1) + y.told(5), 201);
        due("begin: what it was", y.begin(), 201);
        due("anew", y.told(5), 0);
    }

    /** A changed cork begins the drift anew, stones and digging do not. */
    private static void whatBeginsTheDriftAnew() {
        SlowerCork x = of("place to 0 50 to 1 50;place to 0 50 to 1 50;bridge;");
        int[][] changes = {{0, 0, 0}, {0, 1, 0}, {0, 2, 0}, {1, 0, 2}, {1, 1, 1}, {1, 2, 30}};
        for (int[] c : changes) {
            x.drift(3);
            x.stone(0, true);
            x.dig(0, 0, 1, 1);
            x.seed(4);
            due("goes on", x.told(5), 3);
            x.cork(c[0], c[1], c[2]);
            due("anew", x.told(5), 0);
            due("THE SEED stays", x.seed(4), 4);
            due("side 0 is set in", x.where(0), 0);
        }
        due("side 1 is not", x.where(1), NONE);
    }

    /** How many side 0 wins by SLOW's draws, if each suit has so many minutes at most. */
    private static int slowWins(int seed, int suits, int minutes) {
        long s = seed;
        int won = 0;
        for (int i = 0; i < suits; i++) {
            boolean first = false;
            boolean second = false;
            for (int minute = 1; minute <= minutes && !first && !second; minute++) {
                s = next(s);
                first = draw(s, 100) >= 99;
                s = next(s);
                second = draw(s, 100) >= 99;
            }
            won += first && !second ? 1 : 0;
        }
        return won;
    }

    private static void morningsOfTwoHundredMinutes() {
        int fewer = 0;
        int more = 0;
        for (int seed = 0; seed < 4000 && (fewer < 3 || more < 3); seed++) {
            int want = slowWins(seed, 40, 200);
            boolean less = slowWins(seed, 40, 199) != want;
            boolean greater = slowWins(seed, 40, 201) != want;
            if (less || greater) {
                fewer += less ? 1 : 0;
                more += greater ? 1 : 0;
                SlowerCork x = of(SLOW);
                x.seed(seed);
                due("morning(40) from " + seed, x.morning(40), want);
            }
        }
        due("both sides of 200 were seen", fewer >= 3 && more >= 3 ? 1 : 0, 1);
        for (int n : new int[] {1, 2, 39, 40}) {
            SlowerCork x = of(SLOW);
            due("morning(" + n + ")", x.morning(n), slowWins(0, n, 200));
            due("THE DRIFT stays", x.told(5) + x.where(0) + x.where(1), 0);
        }
        SlowerCork line = of(LINE);
        due("both at once are nobody's", line.morning(40), 0);
        line.cork(1, 2, 30);
        due("all are won", line.morning(40), 40);
        line.cork(0, 2, 30);
        line.cork(1, 1, 1);
        due("none is won", line.morning(40), 0);
    }

    private static void morningLeavesTheDrift() {
        SlowerCork x = of(LINE);
        x.drift(1);
        x.morning(3);
        due("at its minute", x.told(5), 1);
        due("where they were", x.where(0) * 10 + x.where(1), 11);
        due("goes on from there", x.drift(1), 3);
        due("an ended one stays too", x.morning(40) * 10 + x.told(5), 2);
        due("ended", x.where(0) + x.where(1), 4);
        x.cork(0, 1, 1);
        x.cork(1, 2, 3);
        for (int minute = 0; minute <= 1; minute++) {
            x.morning(2);
            due("each where it was at " + minute, x.where(0) * 10 + x.where(1), minute == 0 ? 9 : 19);
            due("THE MINUTE", x.told(5), minute);
            x.drift(1);
        }
    }

    // ---- logs, images: promises 27 to 29, 31, 32

    private static void judgeUpToTheLast() {
        for (int m : new int[] {0, 1, 29, 30}) {
            SlowerCork x = of(LINE);
            x.cork(0, 2, m);
            for (int minute = 0; minute < 40; minute++) {
                due("none is wrong yet", x.judge(0), NONE);
                x.log(0, minute < m ? NOWHERE : Math.min(minute - m, 2));
            }
            due("40 that can be", x.judge(0), NONE);
            x.cork(0, 2, m == 30 ? 29 : m + 1);
            due("set in at another minute", x.judge(0), m == 30 ? 29 : m);
        }
        SlowerCork y = of(LINE);
        for (int minute = 0; minute < 39; minute++) {
            y.log(1, Math.min(minute, 2));
        }
        due("39 that can be", y.judge(1), NONE);
        y.log(1, 1);
        due("the 40th cannot", y.judge(1), 39);
        due("the other's log is empty", y.judge(0), NONE);
        y.clear();
        due("empty", y.judge(1), NONE);
        y.log(1, 1);
        due("the first cannot", y.judge(1), 0);
        y.log(1, 1);
        due("the first that cannot", y.judge(1), 0);
        y.cork(1, 1, 1);
        due("the second then", y.judge(1), 1);
        y.stone(1, true);
        due("a stone holds it", y.judge(1), NONE);
    }

    private static void judgeByKinds() {
        int[][] seen = {{0, 1, 2, 3, 4, 5}, {0, 2, 4, 5, 5, 5}, {0, 0, 1, 1, 2, 2}};
        int[][] wrongAt = {{NONE, 1, 1}, {1, NONE, 1}, {1, 1, NONE}};
        SlowerCork x = of("place to 1 100;place to 2 100;place to 3 100;place to 4 100;place to 5 100;bridge;");
        for (int log = 0; log < 3; log++) {
            x.clear();
            for (int p : seen[log]) {
                x.log(0, p);
            }
            for (int kind = 0; kind < 3; kind++) {
                x.cork(0, 0, kind);
                due("log " + log + " of a kind " + kind, x.judge(0), wrongAt[log][kind]);
            }
        }
        x.clear();
        x.cork(0, 0, HEAVY);
        x.cork(0, 2, 1);
        for (int p : new int[] {NOWHERE, 0, 0, 1, 1, 2}) {
            x.log(0, p);
        }
        due("heavy by minutes of its own", x.judge(0), NONE);
        x.cork(0, 2, 0);
        due("not nowhere at minute 0", x.judge(0), 0);
        x.clear();
        for (int p : new int[] {0, 0, 1, NOWHERE}) {
            x.log(0, p);
        }
        due("nowhere again", x.judge(0), 3);
    }

    private static void imagesKeepAndGiveBack() {
        SlowerCork x = of("place to 1 50 to 0 50;place to 1 90 to 2 10;bridge;");
        due("none is kept", x.goBack(0), NOT);
        due("keep 0", x.keep(0), 1);
        due("1 is not", x.goBack(1), NOT);
        x.cork(0, 0, WAXED);
        x.cork(1, 2, 2);
        x.stone(1, true);
        x.dig(0, 0, 1, 49);
        x.drift(1);
        x.seed(8);
        x.keep(1);
        int[] ones = all(x);
        x.goBack(0);
        int[] first = {0, 0, 0, 50, 50, 90, 10, 0, 0};
        due("image 0: " + Arrays.toString(all(x)), Arrays.equals(all(x), first) ? 1 : 0, 1);
        due("its corks", x.cork(0, 0, 0) + x.cork(1, 2, 0), 0);
        x.stone(0, true);
        x.goBack(1);
        due("image 1: " + Arrays.toString(all(x)), Arrays.equals(all(x), ones) ? 1 : 0, 1);
        due("what was changed since is gone", x.told(7), 2);
        x.keep(0);
        x.stone(0, true);
        x.goBack(0);
        due("kept anew: " + Arrays.toString(all(x)), Arrays.equals(all(x), ones) ? 1 : 0, 1);
        due("its stone is felt", x.at(PLAIN, 1, 1, 2), 100000000);
        due("its digging is felt", x.at(PLAIN, 0, 1, 1), 10000000);
        due("its corks", x.cork(0, 0, 0) * 10 + x.cork(1, 2, 0), 12);
    }

    private static int[] all(SlowerCork x) {
        int seed = x.seed(0);
        x.seed(seed);
        return new int[] {x.told(5), x.told(7), seed, x.move(0, 0, 1), x.move(0, 1, 1), x.move(1, 0, 1), x.move(1, 1, 1), x.where(0), x.where(1)};
    }

    private static void imagesLeaveTheRest() {
        SlowerCork x = of(LINE);
        x.keep(0);
        x.run(0, 2);
        x.log(0, 0);
        x.log(1, 0);
        feedText(x, "bridg");
        x.goBack(0);
        due("runs, logs, THE TEXT are not of the image", x.told(1) * 1000 + x.told(3) * 100 + x.told(4) * 10 + x.told(2), 1115);
        feedText(x, "e;x");
        due("a fault", x.stream(), -11);
        due("its byte", x.fault(), 7);
        due("the image is there still", x.goBack(0), 1);
        due("the fault too", x.fault(), 7);
        feedText(x, LINE);
        x.stream();
        due("gone by a new stream", x.goBack(0), NOT);
        x.keep(1);
        due("kept in it", x.goBack(1), 1);
        due("no text at all", x.stream(), 0);
        due("gone by none too", x.goBack(1), NOT);
    }

    public static void main(String[] args) {
        aNewObject();
        countsFromNoneToAll();
        setsFromNoneToAll();
        movesAsTold();
        movesOfEachPlace();
        streamSetsAllAnew();
        minutesOfKinds();
        partsAreCut();
        knownFromBothSides();
        laterByTheLastMinute();
        laterByTheMinuteSetIn();
        sumsOfManySuits();
        bestOfAllAheadOfTheBridge();
        bestAgainstTheOtherAsItIs();
        mixedUpToTheBridge();
        mixedShares();
        howMuchAStoneHolds();
        mostOfAllAheadOfTheBridge();
        fitOfRuns();
        stonedOnlyIfGreater();
        digUpToTheLast();
        fairByTwentyAtMost();
        fairWithin();
        fairLeavesOne();
        fairInOrder();
        whichWayByADraw();
        seedsWrap();
        setInAtItsMinute();
        goesAsItsKind();
        driftTillItIsEnded();
        whatBeginsTheDriftAnew();
        morningsOfTwoHundredMinutes();
        morningLeavesTheDrift();
        judgeUpToTheLast();
        judgeByKinds();
        imagesKeepAndGiveBack();
        imagesLeaveTheRest();
        System.out.println(wrong == 0 ? "all edges are as due" : wrong + " answers are not as due");
        if (wrong != 0) {
            System.exit(1);
        }
    }
}
