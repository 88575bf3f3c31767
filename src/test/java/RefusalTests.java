import java.util.ArrayList;
import java.util.Arrays;
import java.util.List;
import java.util.function.Supplier;

/**
 * Every call with every argument on both sides of its bounds, all together: of several refusals the first in the document's order is
 * answered, what is within its bounds is not refused, and what is refused changes nothing: an object with refused calls between
 * answers all that follows like one without.
 */
public final class RefusalTests {
    private static final int NONE = -1, UNKNOWN = -1000000001, OUTSIDE = -1000000002, NOT = -1000000003, FULL = -1000000004;
    private static final int MAX = Integer.MAX_VALUE, MIN = Integer.MIN_VALUE;
    private static final int BATCH = 60;

    private static int wrong = 0;
    private static int looked = 0;

    private static void due(String call, int got, int want) {
        looked++;
        if (got != want) {
            wrong++;
            System.out.println(call + " answered " + got + ", due is " + want);
        }
    }

    private interface Call {
        int on(SlowerCork x);
    }

    /** A call, with what it is refused for; 0 if it is not. */
    private static final class Case {
        final String name;
        final int refusal;
        final Call call;

        Case(String name, int refusal, Call call) {
            this.name = name;
            this.refusal = refusal;
            this.call = call;
        }
    }

    /** What is known of an object, so that it can be told what is refused. */
    private static final class State {
        final String name;
        final Supplier<SlowerCork> maker;
        final int places;
        int[] moves = {};
        int[][] chances = {};
        int bytes = 0;
        int runs = 0;
        int[] logged = {0, 0};
        boolean[] kept = {false, false};

        State(String name, int places, Supplier<SlowerCork> maker) {
            this.name = name;
            this.places = places;
            this.maker = maker;
        }

        int bridge() {
            return places - 1;
        }
    }

    private static void feedText(SlowerCork x, String text) {
        for (int i = 0; i < text.length(); i += 8) {
            int n = Math.min(8, text.length() - i);
            long bytes = 0;
            for (int k = 0; k < n; k++) {
                bytes = bytes << 8 | text.charAt(i + k) & 255;
            }
            x.feed(n, bytes);
        }
    }

    private static State fresh() {
        return new State("a new object", 0, SlowerCork::new);
    }

    private static State bridgeAlone() {
        State s = new State("the bridge alone", 1, () -> {
            SlowerCork x = new SlowerCork();
            feedText(x, "bridge;");
            x.stream();
            x.seed(5);
            x.log(0, 0);
            x.keep(1);
            feedText(x, "brid");
            return x;
        });
        s.moves = new int[] {0};
        s.chances = new int[][] {{}};
        s.bytes = 4;
        s.logged[0] = 1;
        s.kept[1] = true;
        return s;
    }

    private static State inTheMidst() {
        State s = new State("in the midst", 5, () -> {
            SlowerCork x = new SlowerCork();
            feedText(x, "place to 1 70 to 0 30;place to 2 50 to 3 40 to 1 9 to 4 1;place to 4 100;place to 3 100;bridge;");
            x.stream();
            x.cork(0, 0, 1);
            x.cork(0, 2, 2);
            x.cork(1, 1, 1);
            x.cork(1, 2, 9);
            x.stone(1, true);
            x.seed(1234);
            x.keep(0);
            x.dig(1, 0, 2, 5);
            x.stone(0, true);
            x.run(0, 4);
            x.run(1, 7);
            x.run(3, 200);
            x.log(0, 12);
            x.log(0, 12);
            x.log(1, 1);
            x.drift(2);
            feedText(x, "place to 1 100;bridge");
            return x;
        });
        s.moves = new int[] {2, 4, 1, 1, 0};
        s.chances = new int[][] {{70, 30}, {45, 40, 14, 1}, {100}, {100}, {}};
        s.bytes = 21;
        s.runs = 3;
        s.logged = new int[] {2, 1};
        s.kept[0] = true;
        return s;
    }

    private static State allIsFull() {
        State s = new State("all is full", 12, () -> {
            SlowerCork x = new SlowerCork();
            feedText(x, "place to 1 99 to 0 1;" + "place to 11 98 to 0 2;".repeat(10) + "bridge;");
            x.stream();
            x.keep(0);
            x.keep(1);
            for (int i = 0; i < 12; i++) {
                x.run(i % 11, 200 - i);
            }
            for (int i = 0; i < 40; i++) {
                x.log(0, i == 0 ? 0 : 1);
                x.log(1, i == 0 ? 0 : 11);
            }
            for (int p = 0; p < 11; p++) {
                x.stone(p, true);
            }
            x.drift(200);
            feedText(x, "bridge;" + " ".repeat(493));
            return x;
        });
        s.moves = new int[] {2, 2, 2, 2, 2, 2, 2, 2, 2, 2, 2, 0};
        s.chances = new int[12][];
        Arrays.fill(s.chances, new int[] {98, 2});
        s.chances[0] = new int[] {99, 1};
        s.chances[11] = new int[] {};
        s.bytes = 500;
        s.runs = 12;
        s.logged = new int[] {40, 40};
        s.kept = new boolean[] {true, true};
        return s;
    }

    /** One byte, one run, one log less than what is full: the last that are in. */
    private static State allButFull() {
        State s = new State("all but full", 3, () -> {
            SlowerCork x = new SlowerCork();
            feedText(x, "place to 1 2 to 0 98;place to 2 100;bridge;");
            x.stream();
            for (int i = 0; i < 11; i++) {
                x.run(i % 2, 1 + i);
            }
            for (int i = 0; i < 40; i++) {
                x.log(0, i % 2);
            }
            for (int i = 0; i < 39; i++) {
                x.log(1, 12);
            }
            feedText(x, "x".repeat(499));
            return x;
        });
        s.moves = new int[] {2, 1, 0};
        s.chances = new int[][] {{2, 98}, {100}, {}};
        s.bytes = 499;
        s.runs = 11;
        s.logged = new int[] {40, 39};
        return s;
    }

    private static int first(int... refusals) {
        int found = 0;
        for (int r : refusals) {
            found = r != 0 && (found == 0 || r > found) ? r : found;
        }
        return found;
    }

    private static int within(int v, int least, int greatest, int refusal) {
        return v >= least && v <= greatest ? 0 : refusal;
    }

    /** Both sides of the bounds told, and far from them. */
    private static int[] around(int... bounds) {
        java.util.TreeSet<Integer> all = new java.util.TreeSet<>(List.of(MIN, MAX, MIN + 1, MAX - 1));
        for (int b : bounds) {
            all.add(b - 1);
            all.add(b);
            all.add(b + 1);
        }
        return all.stream().mapToInt(i -> i).toArray();
    }

    private static int[] sides() {
        return around(0, 1);
    }

    private static int[] kinds() {
        return around(0, 2);
    }

    private static int[] placesOf(State s) {
        return around(0, s.bridge(), 12);
    }

    private static int place(State s, int p) {
        return within(p, 0, s.bridge(), UNKNOWN);
    }

    private static int ahead(State s, int p) {
        return within(p, 0, s.bridge() - 1, UNKNOWN);
    }

    private static int suit(State s) {
        return s.places < 2 ? NOT : 0;
    }

    private static void theStream(State s, List<Case> all) {
        for (int n : around(1, 8)) {
            int full = n >= 1 && n <= 8 && s.bytes + n > 500 ? FULL : 0;
            all.add(new Case("feed(" + n + ")", first(within(n, 1, 8, OUTSIDE), full), x -> x.feed(n, 0x6162636465666768L)));
        }
        for (int what : around(0, 7)) {
            all.add(new Case("told(" + what + ")", within(what, 0, 7, OUTSIDE), x -> x.told(what)));
        }
        for (int p : placesOf(s)) {
            for (int i : around(0, 2, 4)) {
                for (int what : around(0, 1)) {
                    int moves = place(s, p) == 0 ? s.moves[p] : 0;
                    int refusal = first(place(s, p), within(i, -1, moves - 1, UNKNOWN), within(what, 0, 1, OUTSIDE));
                    all.add(new Case("move(" + p + ", " + i + ", " + what + ")", refusal, x -> x.move(p, i, what)));
                }
            }
        }
    }

    private static void corks(State s, List<Case> all) {
        for (int side : sides()) {
            for (int what : around(0, 2)) {
                for (int v : around(0, 2, 30, s.bridge())) {
                    int kind = what == 0 ? within(v, 0, 2, UNKNOWN) : 0;
                    int place = what == 1 ? ahead(s, v) : 0;
                    int minute = what == 2 ? within(v, 0, 30, OUTSIDE) : 0;
                    int refusal = first(within(side, 0, 1, UNKNOWN), kind, place, within(what, 0, 2, OUTSIDE), minute, suit(s));
                    all.add(new Case("cork(" + side + ", " + what + ", " + v + ")", refusal, x -> x.cork(side, what, v)));
                }
            }
        }
        for (int what : around(0, 2)) {
            all.add(new Case("later(" + what + ")", first(within(what, 0, 2, OUTSIDE), suit(s)), x -> x.later(what)));
        }
    }

    private static void odds(State s, List<Case> all) {
        for (int kind : kinds()) {
            for (int p : placesOf(s)) {
                int unknown = first(within(kind, 0, 2, UNKNOWN), place(s, p));
                String of = "(" + kind + ", " + p + ", ";
                for (int t : around(0, 200)) {
                    int refusal = first(unknown, within(t, 0, 200, OUTSIDE));
                    all.add(new Case("comes" + of + t + ")", refusal, x -> x.comes(kind, p, t)));
                    all.add(new Case("kept" + of + t + ")", refusal, x -> x.kept(kind, p, t)));
                    for (int q : new int[] {MIN, -1, 0, s.bridge(), s.places, MAX}) {
                        all.add(new Case("at" + of + t + ", " + q + ")", first(refusal, place(s, q)), x -> x.at(kind, p, t, q)));
                    }
                }
                for (int d : around(1, 1000)) {
                    int refusal = first(unknown, within(d, 1, 1000, OUTSIDE));
                    all.add(new Case("known" + of + d + ")", refusal, x -> x.known(kind, p, d)));
                }
            }
        }
    }

    private static void atBest(State s, List<Case> all) {
        for (int what : around(0, 2)) {
            for (int m : around(0, 10)) {
                for (int side : sides()) {
                    int refusal = first(within(side, 0, 1, UNKNOWN), within(m, 0, 10, OUTSIDE), within(what, 0, 2, OUTSIDE), suit(s));
                    all.add(new Case("best(" + side + ", " + m + ", " + what + ")", refusal, x -> x.best(side, m, what)));
                }
            }
        }
        for (int what : around(0, 6)) {
            for (int p : placesOf(s)) {
                for (int n : around(1, 3)) {
                    int among = (long) p + n > s.bridge() ? UNKNOWN : 0;
                    int refusal = first(ahead(s, p), among, within(n, 1, 3, OUTSIDE), within(what, 0, 6, OUTSIDE));
                    all.add(new Case("mixed(" + p + ", " + n + ", " + what + ")", refusal, x -> x.mixed(p, n, what)));
                }
            }
        }
    }

    private static void stones(State s, List<Case> all) {
        for (int p : placesOf(s)) {
            all.add(new Case("stone(" + p + ", true)", ahead(s, p), x -> x.stone(p, true)));
            all.add(new Case("stone(" + p + ", false)", ahead(s, p), x -> x.stone(p, false)));
            all.add(new Case("fit(" + p + ")", p == NONE ? 0 : ahead(s, p), x -> x.fit(p)));
            for (int t : around(1, 200)) {
                int refusal = first(ahead(s, p), within(t, 1, 200, OUTSIDE), s.runs == 12 ? FULL : 0);
                all.add(new Case("run(" + p + ", " + t + ")", refusal, x -> x.run(p, t)));
            }
        }
        for (int what : around(0, 1)) {
            for (int side : sides()) {
                int refusal = first(within(side, 0, 1, UNKNOWN), within(what, 0, 1, OUTSIDE), suit(s));
                all.add(new Case("most(" + side + ", " + what + ")", refusal, x -> x.most(side, what)));
            }
        }
    }

    private static void digging(State s, List<Case> all) {
        for (int p : placesOf(s)) {
            int moves = place(s, p) == 0 ? s.moves[p] : 0;
            for (int from : around(0, moves)) {
                for (int to : new int[] {MIN, -1, 0, 1, moves - 1, moves, MAX}) {
                    int pair = first(place(s, p), within(from, 0, moves - 1, UNKNOWN), within(to, 0, moves - 1, UNKNOWN), from == to ? UNKNOWN : 0);
                    int c = pair == 0 ? s.chances[p][from] : 1;
                    for (int n : around(1, c, 99)) {
                        int refusal = first(pair, within(n, 1, 99, OUTSIDE), c - (long) n < 1 ? NOT : 0);
                        all.add(new Case("dig(" + p + ", " + from + ", " + to + ", " + n + ")", refusal, x -> x.dig(p, from, to, n)));
                    }
                }
            }
        }
        for (int e : around(0, 1000000)) {
            for (int what : around(0, 3)) {
                int refusal = first(within(e, 0, 1000000, OUTSIDE), within(what, 0, 3, OUTSIDE), suit(s));
                all.add(new Case("fair(" + e + ", " + what + ")", refusal, x -> x.fair(e, what)));
            }
        }
    }

    private static void drifts(State s, List<Case> all) {
        for (int n : around(1, 200)) {
            all.add(new Case("drift(" + n + ")", first(within(n, 1, 200, OUTSIDE), suit(s)), x -> x.drift(n)));
        }
        for (int n : around(1, 40)) {
            all.add(new Case("morning(" + n + ")", first(within(n, 1, 40, OUTSIDE), suit(s)), x -> x.morning(n)));
        }
        for (int side : sides()) {
            all.add(new Case("where(" + side + ")", first(within(side, 0, 1, UNKNOWN), suit(s)), x -> x.where(side)));
            all.add(new Case("judge(" + side + ")", within(side, 0, 1, UNKNOWN), x -> x.judge(side)));
            for (int p : placesOf(s)) {
                int full = within(side, 0, 1, UNKNOWN) == 0 && s.logged[side] == 40 ? FULL : 0;
                int refusal = first(within(side, 0, 1, UNKNOWN), p == 12 ? 0 : place(s, p), full);
                all.add(new Case("log(" + side + ", " + p + ")", refusal, x -> x.log(side, p)));
            }
        }
        for (int v : around(0)) {
            all.add(new Case("seed(" + v + ")", within(v, 0, MAX, OUTSIDE), x -> x.seed(v)));
        }
        for (int i : around(0, 1)) {
            int unknown = within(i, 0, 1, UNKNOWN);
            all.add(new Case("keep(" + i + ")", unknown, x -> x.keep(i)));
            all.add(new Case("goBack(" + i + ")", first(unknown, unknown == 0 && !s.kept[i] ? NOT : 0), x -> x.goBack(i)));
        }
    }

    private static void never(List<Case> all) {
        all.add(new Case("fault()", 0, SlowerCork::fault));
        all.add(new Case("forget()", 0, SlowerCork::forget));
        all.add(new Case("stoned()", 0, SlowerCork::stoned));
        all.add(new Case("begin()", 0, SlowerCork::begin));
        all.add(new Case("clear()", 0, SlowerCork::clear));
        all.add(new Case("stream()", 0, SlowerCork::stream));
    }

    private static List<Case> casesOf(State s) {
        List<Case> all = new ArrayList<>();
        theStream(s, all);
        corks(s, all);
        odds(s, all);
        atBest(s, all);
        stones(s, all);
        digging(s, all);
        drifts(s, all);
        never(all);
        return all;
    }

    /** All that an object answers: reading alone first, then by what changes it. */
    private static List<Integer> probe(SlowerCork x, boolean withText) {
        List<Integer> a = new ArrayList<>();
        asItIs(x, a, withText);
        a.add(x.goBack(0));
        asItIs(x, a, withText);
        a.add(x.goBack(1));
        asItIs(x, a, withText);
        a.add(x.clear());
        a.add(x.forget());
        if (withText) {
            a.add(x.feed(1, ';'));
            a.add(x.stream());
            a.add(x.fault());
            a.add(x.told(0));
            a.add(x.move(0, 0, 1));
        }
        return a;
    }

    private static void asItIs(SlowerCork x, List<Integer> a, boolean withText) {
        for (int what = 0; what < 8; what++) {
            a.add(what != 2 || withText ? x.told(what) : 0);
        }
        a.add(withText ? x.fault() : 0);
        for (int p = 0; p < x.told(0) && p < 5; p++) {
            int moves = x.move(p, NONE, 0);
            a.add(moves);
            for (int i = 0; i < moves; i++) {
                a.add(x.move(p, i, 0));
                a.add(x.move(p, i, 1));
            }
            a.add(x.at(p % 3, p, 3, 0));
            a.add(x.comes(0, p, 200));
        }
        for (int side = 0; side < 2; side++) {
            a.add(x.later(side));
            a.add(x.where(side));
            a.add(x.judge(side));
        }
        a.add(x.fit(NONE));
        int seed = x.seed(0);
        a.add(seed);
        x.seed(seed);
        a.add(x.drift(3));
        a.add(x.where(0));
        a.add(x.where(1));
        a.add(x.begin());
        for (int side = 0; side < 2; side++) {
            for (int what = 0; what < 3; what++) {
                int was = x.cork(side, what, 0);
                a.add(was);
                x.cork(side, what, was);
            }
        }
        a.add(x.seed(seed));
    }

    private static void answers(State s, List<Case> all) {
        for (Case c : all) {
            SlowerCork x = s.maker.get();
            int got = c.call.on(x);
            if (c.refusal != 0) {
                due(s.name + ": " + c.name, got, c.refusal);
            } else {
                due(s.name + ": " + c.name + " is refused by " + got + ": what is due is", got <= UNKNOWN ? 1 : 0, 0);
            }
        }
    }

    private static boolean changesNothing(State s, List<Case> some, List<Integer> want, boolean withText) {
        SlowerCork x = s.maker.get();
        for (Case c : some) {
            c.call.on(x);
        }
        looked++;
        return probe(x, withText).equals(want);
    }

    /** Some at once, so that it is soon done; one by one where these are not as due, to tell which. */
    private static void nothingIsChanged(State s, List<Case> some) {
        List<Integer> want = probe(s.maker.get(), true);
        for (int from = 0; from < some.size(); from += BATCH) {
            List<Case> batch = some.subList(from, Math.min(from + BATCH, some.size()));
            if (!changesNothing(s, batch, want, true)) {
                for (Case c : batch) {
                    if (!changesNothing(s, List.of(c), want, true)) {
                        System.out.println(s.name + ": " + c.name + " changed something");
                    }
                }
                wrong++;
            }
        }
    }

    /** Calls that ask alone, as no promise of theirs tells of a change. */
    private static boolean asksAlone(Case c) {
        return c.name.matches("(fault|told|move|comes|at|kept|known|later|best|mixed|most|fit|stoned|fair|where|judge)\\(.*");
    }

    /** Promise 3: if the text has a fault all is as it was, but for THE TEXT and the byte of the fault. */
    private static void faultyTexts(State s) {
        List<Integer> want = probe(s.maker.get(), false);
        String[] texts = {"x", "place to 12 100;bridge;", "place to 0 20 to 1 20 to 2 20 to 3 20 to 4 20;bridge;", "place to 0 50 to 0 50;bridge;",
            "place to 0 99;bridge;", "place to 0 50 to 1 51;bridge;", "place to 1 100;place to 9 100;bridge;", "place to 0 50 to 1 50;bridge;x"};
        for (String text : texts) {
            SlowerCork x = s.maker.get();
            feedText(x, "x");
            x.stream();
            feedText(x, text);
            due(s.name + ": '" + text + "' is refused", x.stream() <= -11 ? 1 : 0, 1);
            due(s.name + ": THE TEXT behind '" + text + "'", x.told(2), 0);
            due(s.name + ": all is as it was behind '" + text + "'", probe(x, false).equals(want) ? 1 : 0, 1);
        }
    }

    private static void look(State s) {
        List<Case> all = casesOf(s);
        answers(s, all);
        List<Case> refused = new ArrayList<>();
        List<Case> asking = new ArrayList<>();
        for (Case c : all) {
            if (c.refusal != 0) {
                refused.add(c);
            } else if (asksAlone(c)) {
                asking.add(c);
            }
        }
        nothingIsChanged(s, refused);
        nothingIsChanged(s, asking);
        if (s.bytes < 499) {
            faultyTexts(s);
        }
    }

    /** The refusals are told by their names, far below all that is counted, in their order. */
    private static void names() {
        due("NONE", SlowerCork.NONE, -1);
        due("UNKNOWN", SlowerCork.UNKNOWN, -1000000001);
        due("OUTSIDE", SlowerCork.OUTSIDE, -1000000002);
        due("NOT", SlowerCork.NOT, -1000000003);
        due("FULL", SlowerCork.FULL, -1000000004);
    }

    public static void main(String[] args) {
        names();
        look(fresh());
        look(bridgeAlone());
        look(inTheMidst());
        look(allIsFull());
        look(allButFull());
        System.out.println(wrong == 0 ? "all " + looked + " are refused, or not, as due" : wrong + " answers are not as due");
        if (wrong != 0) {
            System.exit(1);
        }
    }
}
