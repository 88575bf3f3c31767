import java.util.Arrays;

/** Two sides set a cork each into a stream of places; whoever's comes later to the bridge has lost. */
public final class SlowerCork {
    public static final int NONE = -1, UNKNOWN = -1000000001, OUTSIDE = -1000000002, NOT = -1000000003, FULL = -1000000004;

    private static final long BILLION = 1000000000L;
    private static final int MILLION = 1000000;
    private static final int LAST_MINUTE = 200;
    private static final int MOST_PLACES = 12;
    private static final int MOST_MOVES = 4;
    /** A stone's move comes ahead of all the others. */
    private static final int MOST_WAYS = 5;
    private static final int PLAIN = 0, WAXED = 1, HEAVY = 2;
    /** What a side's cork has: at 3 times the side, these behind it. */
    private static final int KIND = 0, PLACE = 1, START = 2, OF_CORK = 3;
    private static final int NOWHERE = 12;
    private static final int MOST_LOGGED = 40;
    private static final int MOST_RUNS = 12;
    /** No suit's sides are farther apart than this, so nothing is beyond it. */
    private static final int ANY_GAP = 1000000;

    private final Reader reader;
    private final Bed bed;
    private final Corks corks;
    private final Suit suit;
    private final Mix mix;
    private final Runs runs;
    private final Logs logs;
    private final Image[] images;

    public SlowerCork() {
        reader = new Reader();
        bed = new Bed();
        corks = new Corks(bed);
        suit = new Suit(bed, corks.set);
        mix = new Mix();
        runs = new Runs(bed);
        logs = new Logs();
        images = new Image[] {new Image(), new Image()};
    }

    // ---- the stream

    public int feed(int n, long bytes) {
        if (n < 1 || n > 8) {
            return OUTSIDE;
        }
        if (!reader.hasRoom(n)) {
            return FULL;
        }
        return reader.append(n, bytes);
    }

    public int stream() {
        int flaw = reader.readText();
        if (flaw != 0) {
            return -10 - flaw;
        }
        bed.takeFrom(reader);
        corks.reset();
        runs.count = 0;
        logs.empty();
        for (int i = 0; i < images.length; i++) {
            images[i].taken = false;
        }
        return bed.places;
    }

    public int fault() {
        return reader.flawByte;
    }

    public int told(int what) {
        switch (what) {
            case 0:
                return bed.places;
            case 1:
                return runs.count;
            case 2:
                return reader.length;
            case 3:
                return logs.count[0];
            case 4:
                return logs.count[1];
            case 5:
                return corks.minute;
            case 6:
                return bed.lost;
            case 7:
                return bed.stones;
            default:
                return OUTSIDE;
        }
    }

    public int move(int p, int i, int what) {
        if (!bed.isPlace(p) || (i != NONE && !bed.isMove(p, i))) {
            return UNKNOWN;
        }
        if (what < 0 || what > 1) {
            return OUTSIDE;
        }
        if (i == NONE) {
            return bed.count[p];
        }
        return what == 0 ? bed.goal[p * MOST_MOVES + i] : bed.chance[p * MOST_MOVES + i];
    }

    // ---- corks

    public int cork(int side, int what, int v) {
        if (!isSide(side) || (what == KIND && !isKind(v)) || (what == PLACE && !bed.isAheadOfBridge(v))) {
            return UNKNOWN;
        }
        if (what < KIND || what > START || (what == START && (v < 0 || v > 30))) {
            return OUTSIDE;
        }
        if (!bed.holdsSuit()) {
            return NOT;
        }
        int was = corks.set[side * OF_CORK + what];
        corks.set[side * OF_CORK + what] = v;
        corks.restart();
        return was;
    }

    public int comes(int kind, int p, int t) {
        if (!isKind(kind) || !bed.isPlace(p)) {
            return UNKNOWN;
        }
        if (!isMinute(t)) {
            return OUTSIDE;
        }
        return suit.courses[0].setIn(kind, p).comeBy(t);
    }

    public int at(int kind, int p, int t, int q) {
        if (!isKind(kind) || !bed.isPlace(p) || !bed.isPlace(q)) {
            return UNKNOWN;
        }
        if (!isMinute(t)) {
            return OUTSIDE;
        }
        return suit.courses[0].setIn(kind, p).oddsAt(t, 1 << q);
    }

    public int kept(int kind, int p, int t) {
        if (!isKind(kind) || !bed.isPlace(p)) {
            return UNKNOWN;
        }
        if (!isMinute(t)) {
            return OUTSIDE;
        }
        return suit.courses[0].setIn(kind, p).oddsAt(t, bed.lost);
    }

    public int known(int kind, int p, int d) {
        if (!isKind(kind) || !bed.isPlace(p)) {
            return UNKNOWN;
        }
        if (d < 1 || d > 1000) {
            return OUTSIDE;
        }
        return suit.firstApart(kind, p, d);
    }

    public int later(int what) {
        if (what < 0 || what > 2) {
            return OUTSIDE;
        }
        if (!bed.holdsSuit()) {
            return NOT;
        }
        suit.raceAsSet(ANY_GAP);
        return what == 2 ? suit.bothAtOnce() : suit.lateOf(what);
    }

    // ---- at best

    public int best(int side, int m, int what) {
        if (!isSide(side)) {
            return UNKNOWN;
        }
        if (m < 0 || m > 10 || what < 0 || what > 2) {
            return OUTSIDE;
        }
        if (!bed.holdsSuit()) {
            return NOT;
        }
        suit.findBest(side, m);
        return suit.found[what];
    }

    public int mixed(int p, int n, int what) {
        if (!bed.isAheadOfBridge(p) || n > bed.bridge() - p) {
            return UNKNOWN;
        }
        if (n < 1 || n > 3 || what < 0 || what > 6) {
            return OUTSIDE;
        }
        suit.tellFears(p, n, mix.fear);
        if (!mix.findPair(n)) {
            return NOT;
        }
        return what == 0 ? mix.value() : mix.shareOf((what - 1) / Mix.MOST, (what - 1) % Mix.MOST);
    }

    // ---- stones, digging

    public int stone(int p, boolean is) {
        if (!bed.isAheadOfBridge(p)) {
            return UNKNOWN;
        }
        boolean was = bed.hasStone(p);
        if (was != is) {
            bed.turnStone(p);
        }
        return was ? 1 : 0;
    }

    public int most(int side, int what) {
        if (!isSide(side)) {
            return UNKNOWN;
        }
        if (what < 0 || what > 1) {
            return OUTSIDE;
        }
        if (!bed.holdsSuit()) {
            return NOT;
        }
        suit.findMost(side);
        return suit.found[what];
    }

    public int run(int p, int t) {
        if (!bed.isAheadOfBridge(p)) {
            return UNKNOWN;
        }
        if (t < 1 || t > LAST_MINUTE) {
            return OUTSIDE;
        }
        if (runs.count >= MOST_RUNS) {
            return FULL;
        }
        return runs.add(p, t);
    }

    public int forget() {
        int were = runs.count;
        runs.count = 0;
        return were;
    }

    public int fit(int p) {
        if (p == NONE) {
            return runs.fitAsItIs(suit.courses[0]);
        }
        if (!bed.isAheadOfBridge(p)) {
            return UNKNOWN;
        }
        return runs.fitWithOther(p, suit.courses[0]);
    }

    public int stoned() {
        return runs.findStone(suit.courses[0]);
    }

    public int dig(int p, int from, int to, int n) {
        if (!bed.isPlace(p) || !bed.arePair(p, from, to)) {
            return UNKNOWN;
        }
        if (n < 1 || n > 99) {
            return OUTSIDE;
        }
        if (!bed.canShift(p, from, n)) {
            return NOT;
        }
        bed.shift(p, from, to, n);
        return bed.chance[p * MOST_MOVES + to];
    }

    public int fair(int e, int what) {
        if (e < 0 || e > MILLION || what < 0 || what > 3) {
            return OUTSIDE;
        }
        if (!bed.holdsSuit()) {
            return NOT;
        }
        suit.findFair(e);
        return suit.found[what];
    }

    // ---- drifts

    public int drift(int n) {
        if (n < 1 || n > LAST_MINUTE) {
            return OUTSIDE;
        }
        if (!bed.holdsSuit()) {
            return NOT;
        }
        corks.goOn(n);
        return corks.outcome();
    }

    public int where(int side) {
        if (!isSide(side)) {
            return UNKNOWN;
        }
        if (!bed.holdsSuit()) {
            return NOT;
        }
        return corks.spot[side];
    }

    public int begin() {
        int was = corks.minute;
        corks.restart();
        return was;
    }

    public int morning(int n) {
        if (n < 1 || n > 40) {
            return OUTSIDE;
        }
        if (!bed.holdsSuit()) {
            return NOT;
        }
        return corks.countWins(n);
    }

    // ---- logs, draws, images

    public int log(int side, int p) {
        if (!isSide(side) || (p != NOWHERE && !bed.isPlace(p))) {
            return UNKNOWN;
        }
        if (logs.count[side] >= MOST_LOGGED) {
            return FULL;
        }
        return logs.add(side, p);
    }

    public int clear() {
        int had = logs.count[0] + logs.count[1];
        logs.empty();
        return had;
    }

    public int judge(int side) {
        if (!isSide(side)) {
            return UNKNOWN;
        }
        return logs.firstWrong(side, bed, corks.set);
    }

    public int seed(int v) {
        if (v < 0) {
            return OUTSIDE;
        }
        int was = (int) corks.drawn;
        corks.drawn = v;
        return was;
    }

    public int keep(int i) {
        if (!isImage(i)) {
            return UNKNOWN;
        }
        images[i].take(bed, corks);
        return 1;
    }

    public int goBack(int i) {
        if (!isImage(i)) {
            return UNKNOWN;
        }
        if (!images[i].taken) {
            return NOT;
        }
        images[i].giveBack(bed, corks);
        return 1;
    }

    private static boolean isSide(int side) {
        return side == 0 || side == 1;
    }

    private static boolean isKind(int kind) {
        return kind >= PLAIN && kind <= HEAVY;
    }

    private static boolean isMinute(int t) {
        return t >= 0 && t <= LAST_MINUTE;
    }

    private boolean isImage(int i) {
        return i >= 0 && i < images.length;
    }

    /** How often a cork goes in a minute of its own. */
    private static int goesIn(int kind, int ownMinute) {
        if (kind == WAXED) {
            return 2;
        }
        return kind == HEAVY && ownMinute % 2 != 0 ? 0 : 1;
    }

    /** The text as it is fed, and the stream it tells, if it has no flaw. */
    private static final class Reader {
        private static final int ROOM = 500;
        private static final int CANNOT_STAND = 1, BAD_NUMBER = 2, TOO_MANY = 3, GOES_ALREADY = 4, NOT_A_HUNDRED = 5, NO_PLACE = 6;

        private final byte[] text = new byte[ROOM];
        private int length;
        private int cursor;
        private int flaw;
        private int flawByte = NONE;
        private int places;
        private final int[] count = new int[MOST_PLACES];
        private final int[] goal = new int[MOST_PLACES * MOST_MOVES];
        private final int[] chance = new int[MOST_PLACES * MOST_MOVES];
        /** Where each goal's number begins: whether it is a place is known at the end alone. */
        private final int[] goalByte = new int[MOST_PLACES * MOST_MOVES];

        boolean hasRoom(int n) {
            return length + n <= ROOM;
        }

        int append(int n, long bytes) {
            for (int k = n - 1; k >= 0; k--) {
                text[length] = (byte) (bytes >> (8 * k));
                length++;
            }
            return length;
        }

        /** Empties the text, whether it is good or not: the number of its flaw, or 0. */
        int readText() {
            cursor = 0;
            flaw = 0;
            flawByte = NONE;
            places = 0;
            if (readPlaces()) {
                checkGoals();
            }
            length = 0;
            return flaw;
        }

        private boolean readPlaces() {
            skipBlanks();
            if (cursor >= length) {
                return true;
            }
            for (int p = 0; p < MOST_PLACES; p++) {
                skipBlanks();
                int start = cursor;
                if (readWord("bridge")) {
                    count[p] = 0;
                    places = p + 1;
                    return readEnd();
                }
                if (!readWord("place")) {
                    return refuse(CANNOT_STAND, start);
                }
                if (p == MOST_PLACES - 1) {
                    return refuse(TOO_MANY, start);
                }
                if (!readMoves(p)) {
                    return false;
                }
            }
            return false;
        }

        private boolean readMoves(int p) {
            int sum = 0;
            for (int i = 0; i <= MOST_MOVES; i++) {
                skipBlanks();
                int start = cursor;
                if (i > 0 && standsHere(';')) {
                    cursor++;
                    count[p] = i;
                    return sum == 100 || refuse(NOT_A_HUNDRED, start);
                }
                if (!readWord("to")) {
                    return refuse(CANNOT_STAND, start);
                }
                if (i == MOST_MOVES) {
                    return refuse(TOO_MANY, start);
                }
                if (!readGoal(p, i) || !readChance(p * MOST_MOVES + i, sum)) {
                    return false;
                }
                sum += chance[p * MOST_MOVES + i];
            }
            return false;
        }

        private boolean readGoal(int p, int i) {
            skipBlanks();
            int start = cursor;
            int number = readNumber(0, MOST_PLACES - 1);
            if (number == NONE) {
                return false;
            }
            for (int k = 0; k < i; k++) {
                if (goal[p * MOST_MOVES + k] == number) {
                    return refuse(GOES_ALREADY, start);
                }
            }
            goal[p * MOST_MOVES + i] = number;
            goalByte[p * MOST_MOVES + i] = start;
            return true;
        }

        private boolean readChance(int slot, int sumAhead) {
            skipBlanks();
            int start = cursor;
            int number = readNumber(1, 100);
            if (number == NONE) {
                return false;
            }
            chance[slot] = number;
            return sumAhead + number <= 100 || refuse(NOT_A_HUNDRED, start);
        }

        private boolean readEnd() {
            skipBlanks();
            if (!standsHere(';')) {
                return refuse(CANNOT_STAND, cursor);
            }
            cursor++;
            skipBlanks();
            return cursor >= length || refuse(CANNOT_STAND, cursor);
        }

        private void checkGoals() {
            for (int p = 0; p < places; p++) {
                for (int i = 0; i < count[p]; i++) {
                    if (goal[p * MOST_MOVES + i] >= places) {
                        refuse(NO_PLACE, goalByte[p * MOST_MOVES + i]);
                        return;
                    }
                }
            }
        }

        /** A number's value, or NONE if it was refused. */
        private int readNumber(int least, int greatest) {
            int start = cursor;
            int value = 0;
            for (; cursor < length && text[cursor] >= '0' && text[cursor] <= '9'; cursor++) {
                value = Math.min(value * 10 + text[cursor] - '0', 1000);
            }
            if (cursor == start) {
                refuse(CANNOT_STAND, start);
                return NONE;
            }
            if (cursor - start > 3 || value < least || value > greatest) {
                refuse(BAD_NUMBER, start);
                return NONE;
            }
            return value;
        }

        /** Goes behind the word if it, and no longer one, stands here. */
        private boolean readWord(String word) {
            int end = cursor;
            while (end < length && text[end] >= 'a' && text[end] <= 'z') {
                end++;
            }
            if (end - cursor != word.length()) {
                return false;
            }
            for (int k = 0; k < word.length(); k++) {
                if (text[cursor + k] != word.charAt(k)) {
                    return false;
                }
            }
            cursor = end;
            return true;
        }

        private boolean standsHere(char sign) {
            return cursor < length && text[cursor] == sign;
        }

        private void skipBlanks() {
            while (cursor < length && text[cursor] == ' ') {
                cursor++;
            }
        }

        private boolean refuse(int number, int start) {
            flaw = number;
            flawByte = start;
            return false;
        }
    }

    /** The stream as it lies: its moves, its stones, and the ways to go that both make together. */
    private static final class Bed {
        private static final int STONE_HOLDS = 20;

        private int places;
        private int stones;
        /** The places from which the bridge cannot be come to: no stone and no digging changes them. */
        private int lost;
        private final int[] count = new int[MOST_PLACES];
        private final int[] goal = new int[MOST_PLACES * MOST_MOVES];
        private final int[] chance = new int[MOST_PLACES * MOST_MOVES];
        private final int[] wayGoal = new int[MOST_PLACES * MOST_WAYS];
        private final int[] wayChance = new int[MOST_PLACES * MOST_WAYS];
        private final int[] wayEnd = new int[MOST_PLACES];

        int bridge() {
            return places - 1;
        }

        boolean isPlace(int p) {
            return p >= 0 && p < places;
        }

        boolean isAheadOfBridge(int p) {
            return p >= 0 && p < places - 1;
        }

        boolean isMove(int p, int i) {
            return i >= 0 && i < count[p];
        }

        /** Two unlike moves of a place. */
        boolean arePair(int p, int from, int to) {
            return isMove(p, from) && isMove(p, to) && from != to;
        }

        boolean holdsSuit() {
            return places > 1;
        }

        void takeFrom(Reader reader) {
            places = reader.places;
            stones = 0;
            System.arraycopy(reader.count, 0, count, 0, count.length);
            System.arraycopy(reader.goal, 0, goal, 0, goal.length);
            System.arraycopy(reader.chance, 0, chance, 0, chance.length);
            settleAll();
            lost = findLost();
        }

        private int findLost() {
            if (places == 0) {
                return 0;
            }
            int saved = 1 << bridge();
            for (int round = 0; round < places; round++) {
                for (int p = 0; p < bridge(); p++) {
                    if ((goals(p) & saved) != 0) {
                        saved |= 1 << p;
                    }
                }
            }
            return ((1 << places) - 1) & ~saved;
        }

        private int goals(int p) {
            int all = 0;
            for (int k = p * MOST_WAYS; k < wayEnd[p]; k++) {
                all |= 1 << wayGoal[k];
            }
            return all;
        }

        void settleAll() {
            for (int p = 0; p < places; p++) {
                settle(p);
            }
        }

        /** Makes the ways of a place anew, the stone's ahead of its moves. */
        private void settle(int p) {
            int held = hasStone(p) ? Math.min(STONE_HOLDS, chance[p * MOST_MOVES] - 1) : 0;
            int way = p * MOST_WAYS;
            if (held > 0) {
                wayGoal[way] = p;
                wayChance[way] = held;
                way++;
            }
            for (int i = 0; i < count[p]; i++) {
                wayGoal[way] = goal[p * MOST_MOVES + i];
                wayChance[way] = chance[p * MOST_MOVES + i] - (i == 0 ? held : 0);
                way++;
            }
            wayEnd[p] = way;
        }

        boolean hasStone(int p) {
            return (stones >> p & 1) != 0;
        }

        void turnStone(int p) {
            stones ^= 1 << p;
            settle(p);
        }

        boolean canShift(int p, int from, int n) {
            return chance[p * MOST_MOVES + from] - n >= 1;
        }

        void shift(int p, int from, int to, int n) {
            chance[p * MOST_MOVES + from] -= n;
            chance[p * MOST_MOVES + to] += n;
            settle(p);
        }

        /** All odds go once, from one row to the other; what is left of a place's goes by its last way. */
        void flow(long[] from, long[] to) {
            int last = places - 1;
            for (int p = 0; p < last; p++) {
                to[p] = 0;
            }
            to[last] = from[last];
            for (int p = 0; p < last; p++) {
                long left = from[p];
                int lastWay = wayEnd[p] - 1;
                for (int k = p * MOST_WAYS; k <= lastWay && left > 0; k++) {
                    long part = k == lastWay ? left : from[p] * wayChance[k] / 100;
                    to[wayGoal[k]] += part;
                    left -= part;
                }
            }
        }

        /** Where a cork goes from a place by a draw. */
        int goalBy(int p, int draw) {
            int sum = 0;
            for (int k = p * MOST_WAYS; k < wayEnd[p]; k++) {
                sum += wayChance[k];
                if (sum > draw) {
                    return wayGoal[k];
                }
            }
            return p;
        }

        /** Whether a cork can be at q after so many goes (0 to 2) from p. */
        boolean leads(int p, int q, int goes) {
            if (!isPlace(p) || !isPlace(q)) {
                return false;
            }
            int reached = 1 << p;
            for (int go = 0; go < goes; go++) {
                reached = goOnce(reached);
            }
            return (reached >> q & 1) != 0;
        }

        private int goOnce(int from) {
            int reached = from & 1 << bridge();
            for (int p = 0; p < bridge(); p++) {
                if ((from >> p & 1) != 0) {
                    reached |= goals(p);
                }
            }
            return reached;
        }
    }

    /** The odds of one cork, made no further than they are asked for. */
    private static final class Course {
        private final Bed bed;
        private int kind;
        private int upTo;
        private final int[] come = new int[LAST_MINUTE + 1];
        private long[] now = new long[MOST_PLACES];
        private long[] next = new long[MOST_PLACES];

        Course(Bed bed) {
            this.bed = bed;
        }

        Course setIn(int newKind, int place) {
            kind = newKind;
            upTo = 0;
            Arrays.fill(now, 0L);
            now[place] = BILLION;
            come[0] = (int) now[bed.bridge()];
            return this;
        }

        /** Odds at the bridge by a minute of its own; ahead of minute 0 it is nowhere. */
        int comeBy(int t) {
            if (t < 0 || t > LAST_MINUTE) {
                return 0;
            }
            for (int u = upTo + 1; u <= t; u++) {
                int goes = goesIn(kind, u);
                for (int go = 0; go < goes; go++) {
                    bed.flow(now, next);
                    long[] spare = now;
                    now = next;
                    next = spare;
                }
                come[u] = (int) now[bed.bridge()];
                upTo = u;
            }
            return come[t];
        }

        /** Odds of a set of places at a minute not passed yet. */
        int oddsAt(int t, int set) {
            comeBy(t);
            long odds = 0;
            for (int p = 0; p < bed.places; p++) {
                if ((set >> p & 1) != 0) {
                    odds += now[p];
                }
            }
            return (int) odds;
        }
    }

    /** Both corks together: how late each is, and what would change it. */
    private static final class Suit {
        private static final int MOST_DUG = 20;

        private final Bed bed;
        private final int[] corks;
        /** Those of side 0's places, then those of side 1's. */
        private final Course[] courses = new Course[2 * Mix.MOST];
        private final long[] late = new long[2];
        private long both;
        private final int[] found = new int[4];

        Suit(Bed bed, int[] corks) {
            this.bed = bed;
            this.corks = corks;
            for (int i = 0; i < courses.length; i++) {
                courses[i] = new Course(bed);
            }
        }

        int lateOf(int side) {
            return (int) (late[side] / 1000);
        }

        int bothAtOnce() {
            return (int) (both / 1000);
        }

        private int gap() {
            return Math.abs(lateOf(0) - lateOf(1));
        }

        private Course courseOf(int side) {
            return courses[side * Mix.MOST];
        }

        private void setInAsSet(int side) {
            courseOf(side).setIn(corks[side * OF_CORK + KIND], corks[side * OF_CORK + PLACE]);
        }

        void raceAsSet(int limit) {
            setInAsSet(0);
            setInAsSet(1);
            race(courseOf(0), corks[START], courseOf(1), corks[OF_CORK + START], limit);
        }

        /** Ends early where no minute to come can count: or where the gap stays above the limit, whatever comes. */
        private void race(Course first, int start0, Course second, int start1, int limit) {
            late[0] = 0;
            late[1] = 0;
            both = 0;
            int by0 = 0;
            int by1 = 0;
            for (int u = 1; u <= LAST_MINUTE; u++) {
                long just0 = first.comeBy(u - start0) - by0;
                long just1 = second.comeBy(u - start1) - by1;
                by0 += (int) just0;
                by1 += (int) just1;
                long out0 = BILLION - by0;
                long out1 = BILLION - by1;
                late[0] += just1 * out0 / BILLION;
                late[1] += just0 * out1 / BILLION;
                both += just0 * just1 / BILLION;
                long rest = out0 * out1 / BILLION;
                if (rest == 0 || leastGap(rest) > limit) {
                    break;
                }
            }
        }

        /** The least the gap can become if each side can still gain up to rest. */
        private long leastGap(long rest) {
            return Math.max(late[0] / 1000 - (late[1] + rest) / 1000, late[1] / 1000 - (late[0] + rest) / 1000);
        }

        int firstApart(int kind, int p, int d) {
            Course one = courses[0].setIn(kind, p);
            Course plain = courses[1].setIn(PLAIN, p);
            for (int t = 0; t <= LAST_MINUTE; t++) {
                if (Math.abs(one.comeBy(t) - plain.comeBy(t)) / MILLION >= d) {
                    return t;
                }
            }
            return NONE;
        }

        void findBest(int side, int m) {
            setInAsSet(1 - side);
            int least = MILLION + 1;
            for (int p = 0; p < bed.bridge(); p++) {
                courseOf(side).setIn(corks[side * OF_CORK + KIND], p);
                for (int minute = 0; minute <= m; minute++) {
                    int start0 = side == 0 ? minute : corks[START];
                    int start1 = side == 1 ? minute : corks[OF_CORK + START];
                    race(courseOf(0), start0, courseOf(1), start1, ANY_GAP);
                    if (lateOf(side) < least) {
                        least = lateOf(side);
                        tell(p, minute, least, NONE);
                    }
                }
            }
        }

        /** What side 0 fears: its places row by row, side 1's column by column. */
        void tellFears(int p, int n, int[] fear) {
            for (int i = 0; i < n; i++) {
                courses[i].setIn(corks[KIND], p + i);
                courses[Mix.MOST + i].setIn(corks[OF_CORK + KIND], p + i);
            }
            for (int i = 0; i < n; i++) {
                for (int j = 0; j < n; j++) {
                    race(courses[i], 0, courses[Mix.MOST + j], 0, ANY_GAP);
                    fear[i * Mix.MOST + j] = lateOf(0) / 1000;
                }
            }
        }

        void findMost(int side) {
            raceAsSet(ANY_GAP);
            int now = lateOf(side);
            tell(NONE, 0, NONE, NONE);
            for (int p = 0; p < bed.bridge(); p++) {
                bed.turnStone(p);
                raceAsSet(ANY_GAP);
                bed.turnStone(p);
                int more = lateOf(side) - now;
                if (p == 0 || Math.abs(more) > Math.abs(found[1])) {
                    tell(p, more, NONE, NONE);
                }
            }
        }

        void findFair(int e) {
            raceAsSet(e);
            if (gap() <= e) {
                tell(0, NONE, NONE, NONE);
                return;
            }
            for (int n = 1; n <= MOST_DUG; n++) {
                for (int p = 0; p < bed.bridge(); p++) {
                    for (int pair = 0; pair < MOST_MOVES * MOST_MOVES; pair++) {
                        int from = pair / MOST_MOVES;
                        int to = pair % MOST_MOVES;
                        if (bed.arePair(p, from, to) && bed.canShift(p, from, n) && isFairDug(p, from, to, n, e)) {
                            tell(n, p, from, to);
                            return;
                        }
                    }
                }
            }
            tell(NONE, NONE, NONE, NONE);
        }

        private boolean isFairDug(int p, int from, int to, int n, int e) {
            bed.shift(p, from, to, n);
            raceAsSet(e);
            bed.shift(p, to, from, n);
            return gap() <= e;
        }

        private void tell(int first, int second, int third, int fourth) {
            found[0] = first;
            found[1] = second;
            found[2] = third;
            found[3] = fourth;
        }
    }

    /** Both sides choose without knowing the other's choice: shares as fractions, by determinants. */
    private static final class Mix {
        private static final int MOST = 3;
        private static final int WIDTH = 4;

        private final int[] fear = new int[MOST * MOST];
        /** A row for each equation: worths of the own set's places, then -1 for the value. */
        private final long[] board = new long[MOST * WIDTH];
        /** Side 0's, then side 1's: over the side's whole. */
        private final long[] share = new long[2 * MOST];
        private final long[] whole = new long[2];
        private final long[] worth = new long[2];

        int value() {
            return whole[0] > 0 ? (int) (worth[0] * 1000 / whole[0]) : 0;
        }

        int shareOf(int side, int k) {
            return whole[side] > 0 ? (int) (share[side * MOST + k] * MILLION / whole[side]) : 0;
        }

        boolean findPair(int n) {
            int sets = 1 << n;
            for (int size = 1; size <= n; size++) {
                for (int set0 = 1; set0 < sets; set0++) {
                    for (int set1 = 1; set1 < sets; set1++) {
                        if (Integer.bitCount(set0) == size && Integer.bitCount(set1) == size && fits(set0, set1, size, n)) {
                            return true;
                        }
                    }
                }
            }
            return false;
        }

        private boolean fits(int set0, int set1, int size, int n) {
            return solve(0, set0, set1, size) && solve(1, set1, set0, size) && noneIsBetter(set0, set1, n);
        }

        private int fearOf(int side, int own, int others) {
            return side == 0 ? fear[own * MOST + others] : fear[others * MOST + own];
        }

        /** A side's shares by which all of the other's set are worth the same; false if these are not one way, or below 0. */
        private boolean solve(int side, int own, int others, int size) {
            fillBoard(side, own, others, size);
            Arrays.fill(share, side * MOST, side * MOST + MOST, 0L);
            whole[side] = 0;
            int column = 0;
            for (int k = 0; k < MOST; k++) {
                if ((own >> k & 1) != 0) {
                    long part = (size + column) % 2 == 0 ? minor(size, column) : -minor(size, column);
                    share[side * MOST + k] = part;
                    whole[side] += part;
                    column++;
                }
            }
            worth[side] = minor(size, size);
            return whole[side] != 0 && makePositive(side);
        }

        private void fillBoard(int side, int own, int others, int size) {
            int row = 0;
            for (int j = 0; j < MOST; j++) {
                if ((others >> j & 1) != 0) {
                    int column = 0;
                    for (int k = 0; k < MOST; k++) {
                        if ((own >> k & 1) != 0) {
                            board[row * WIDTH + column] = fearOf(side, k, j);
                            column++;
                        }
                    }
                    board[row * WIDTH + size] = -1;
                    row++;
                }
            }
        }

        private boolean makePositive(int side) {
            if (whole[side] < 0) {
                whole[side] = -whole[side];
                worth[side] = -worth[side];
                for (int k = 0; k < MOST; k++) {
                    share[side * MOST + k] = -share[side * MOST + k];
                }
            }
            for (int k = 0; k < MOST; k++) {
                if (share[side * MOST + k] < 0) {
                    return false;
                }
            }
            return true;
        }

        /** The determinant of the board's rows without one of its columns. */
        private long minor(int size, int without) {
            int a = without > 0 ? 0 : 1;
            int b = without > 1 ? 1 : 2;
            int c = without > 2 ? 2 : 3;
            if (size == 1) {
                return board[a];
            }
            if (size == 2) {
                return cross(0, a, b);
            }
            return board[a] * cross(1, b, c) - board[b] * cross(1, a, c) + board[c] * cross(1, a, b);
        }

        /** The determinant of two columns of a row and the row behind it. */
        private long cross(int row, int a, int b) {
            int first = row * WIDTH;
            int second = first + WIDTH;
            return board[first + a] * board[second + b] - board[first + b] * board[second + a];
        }

        private boolean noneIsBetter(int set0, int set1, int n) {
            for (int k = 0; k < n; k++) {
                if ((set0 >> k & 1) == 0 && worthBy(1, k) < worth[1]) {
                    return false;
                }
                if ((set1 >> k & 1) == 0 && worthBy(0, k) > worth[0]) {
                    return false;
                }
            }
            return true;
        }

        /** What the other side's place k is worth by a side's shares, over the side's whole. */
        private long worthBy(int side, int k) {
            long sum = 0;
            for (int own = 0; own < MOST; own++) {
                sum += share[side * MOST + own] * fearOf(side, own, k);
            }
            return sum;
        }
    }

    /** Told runs, and how well the stream fits them. */
    private static final class Runs {
        private final Bed bed;
        private int count;
        private final int[] place = new int[MOST_RUNS];
        private final int[] minute = new int[MOST_RUNS];

        Runs(Bed bed) {
            this.bed = bed;
        }

        int add(int p, int t) {
            place[count] = p;
            minute[count] = t;
            count++;
            return count;
        }

        int fitAsItIs(Course course) {
            long how = BILLION;
            for (int i = 0; i < count; i++) {
                course.setIn(PLAIN, place[i]);
                long just = course.comeBy(minute[i]) - course.comeBy(minute[i] - 1);
                how = Math.max(1L, how * (just / 1000) / MILLION);
            }
            return (int) how;
        }

        int fitWithOther(int p, Course course) {
            bed.turnStone(p);
            int how = fitAsItIs(course);
            bed.turnStone(p);
            return how;
        }

        int findStone(Course course) {
            int greatest = fitAsItIs(course);
            int which = NONE;
            for (int p = 0; p < bed.bridge(); p++) {
                int how = fitWithOther(p, course);
                if (how > greatest) {
                    greatest = how;
                    which = p;
                }
            }
            return which;
        }
    }

    /** The sides' corks as they are set, and how they drift by draws. */
    private static final class Corks {
        private final Bed bed;
        private final int[] set = new int[2 * OF_CORK];
        private final int[] spot = new int[2];
        private int minute;
        private long drawn;

        Corks(Bed bed) {
            this.bed = bed;
        }

        void reset() {
            Arrays.fill(set, 0);
            restart();
        }

        void restart() {
            minute = 0;
            for (int side = 0; side < 2; side++) {
                spot[side] = set[side * OF_CORK + START] == 0 ? set[side * OF_CORK + PLACE] : NONE;
            }
        }

        /** 0 goes on, 1, 2 a side came first, 3 both: it ends with the first, so that none comes behind. */
        int outcome() {
            return (spot[0] == bed.bridge() ? 1 : 0) + (spot[1] == bed.bridge() ? 2 : 0);
        }

        void goOn(int minutes) {
            for (int i = 0; i < minutes && outcome() == 0; i++) {
                minute++;
                passMinute(0);
                passMinute(1);
            }
        }

        private void passMinute(int side) {
            int own = minute - set[side * OF_CORK + START];
            if (own == 0) {
                spot[side] = set[side * OF_CORK + PLACE];
            }
            if (own <= 0) {
                return;
            }
            int goes = goesIn(set[side * OF_CORK + KIND], own);
            for (int go = 0; go < goes && bed.isAheadOfBridge(spot[side]); go++) {
                spot[side] = bed.goalBy(spot[side], drawOfHundred());
            }
        }

        private int drawOfHundred() {
            drawn = (drawn * 1103515245L + 12345L) % 2147483648L;
            return (int) (drawn / 65536 % 100);
        }

        /** How many of n suits side 0 wins; the drift is then where it was. */
        int countWins(int n) {
            int spot0 = spot[0];
            int spot1 = spot[1];
            int was = minute;
            int won = 0;
            for (int i = 0; i < n; i++) {
                restart();
                goOn(LAST_MINUTE);
                if (outcome() == 1) {
                    won++;
                }
            }
            spot[0] = spot0;
            spot[1] = spot1;
            minute = was;
            return won;
        }
    }

    /** Where each side's cork was seen, minute by minute. */
    private static final class Logs {
        private final int[] seen = new int[2 * MOST_LOGGED];
        private final int[] count = new int[2];

        void empty() {
            count[0] = 0;
            count[1] = 0;
        }

        int add(int side, int p) {
            seen[side * MOST_LOGGED + count[side]] = p;
            count[side]++;
            return count[side];
        }

        int firstWrong(int side, Bed bed, int[] corks) {
            int kind = corks[side * OF_CORK + KIND];
            int start = corks[side * OF_CORK + START];
            for (int i = 0; i < count[side]; i++) {
                int p = seen[side * MOST_LOGGED + i];
                boolean can;
                if (i < start) {
                    can = p == NOWHERE;
                } else if (i == start) {
                    can = p == corks[side * OF_CORK + PLACE];
                } else {
                    can = bed.leads(seen[side * MOST_LOGGED + i - 1], p, goesIn(kind, i - start));
                }
                if (!can) {
                    return i;
                }
            }
            return NONE;
        }
    }

    /** What was so once, to go on from. */
    private static final class Image {
        private boolean taken;
        private final int[] set = new int[2 * OF_CORK];
        private final int[] spot = new int[2];
        private int minute;
        private long drawn;
        private int stones;
        private final int[] chance = new int[MOST_PLACES * MOST_MOVES];

        void take(Bed bed, Corks corks) {
            taken = true;
            System.arraycopy(corks.set, 0, set, 0, set.length);
            System.arraycopy(corks.spot, 0, spot, 0, spot.length);
            minute = corks.minute;
            drawn = corks.drawn;
            stones = bed.stones;
            System.arraycopy(bed.chance, 0, chance, 0, chance.length);
        }

        void giveBack(Bed bed, Corks corks) {
            System.arraycopy(set, 0, corks.set, 0, set.length);
            System.arraycopy(spot, 0, corks.spot, 0, spot.length);
            corks.minute = minute;
            corks.drawn = drawn;
            bed.stones = stones;
            System.arraycopy(chance, 0, bed.chance, 0, chance.length);
            bed.settleAll();
        }
    }
}
