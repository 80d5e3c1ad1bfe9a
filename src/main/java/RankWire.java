/**
 * A wire on which all may begin at once and the frame of the first rank goes on,
 * with a tape for reading frames and a desk for worst times and orders of ranks.
 */
public final class RankWire {
    public static final int NONE = -1;
    public static final int MISSING = -2;
    public static final int BEYOND = -3;
    public static final int BELOW = -4;
    public static final int KIND = -5;
    public static final int COPY = -6;
    public static final int NO = -7;
    public static final int FULL = -8;
    public static final int SAME = -9;

    private static final int NODES_MOST = 10;
    private static final int WORDS_MOST = 24;
    private static final int BYTES_MOST = 8;

    private static final int TIMED = 0;
    private static final int SHAKEN = 1;
    private static final int RARE = 2;
    private static final int ASKED = 3;

    private static final int FIRST_LONG = 2048;
    private static final int RANKS = FIRST_LONG + (1 << 29);
    private static final int HIGH_BITS = 11;
    private static final int LOW_BITS = 18;
    private static final int LOW_MASK = (1 << LOW_BITS) - 1;
    private static final int COUNT_BITS = 4;

    private static final int T_LEAST = 100;
    private static final int T_MOST = 100000;
    private static final int FIRST_MOST = 100000;
    private static final int LATE_MOST = 1000;
    private static final int DUE_MOST = 1000000;
    private static final int EVERY_LEAST = 100;
    private static final int EVERY_MOST = 1000000;
    private static final int RUN_MOST = 5000;
    private static final int FEED_MOST = 32;

    private static final int SUM_BITS = 15;
    private static final int SUM_MASK = (1 << SUM_BITS) - 1;
    /** x^14 + x^10 + x^8 + x^7 + x^4 + x^3 + 1: the divisor without its x^15. */
    private static final int SUM_DIVISOR = 0x4599;
    private static final int ALIKE_MOST = 5;
    private static final int[] TAIL = {1, 0, 1, 1, 1, 1, 1, 1, 1, 1};
    private static final int FRAME_MOST = 160;
    private static final int TAPE_MOST = 2000;

    private static final int QUIET_FROM = 128;
    private static final int OFF_FROM = 256;
    private static final int OFF_TICKS = 1408;
    private static final int FAIL_BLAME = 8;
    private static final int FREE_AFTER_FAIL = 18;
    private static final int FREE_AFTER_HEARD = 4;
    private static final int UNHEARD_FROM_END = 9;
    private static final int NOISE_MOST = 60;
    private static final int LOG_MOST = 40;
    private static final int NEVER = 0x7fffffff;

    private static final int W_MOST = 30000;
    private static final int ALL = -1;
    private static final int FAULT_COST = 18;
    private static final long LOAD_UNIT = 1000000L;

    private final Roster roster = new Roster();
    private final Frame frame = new Frame();
    private final Tape tape = new Tape();
    private final Reading reading = new Reading(tape);
    private final Wire wire = new Wire(roster, frame);
    private final Desk desk = new Desk(roster);
    private final Row numbers = new Row();
    private final int[] refused = new int[10];

    public RankWire() {
    }

    // ---- nodes and words

    public int node() {
        if (roster.nodeCount >= NODES_MOST) {
            return refuse(FULL);
        }
        return roster.addNode();
    }

    public int word(int node, int rank, int kind, int t, int first) {
        boolean asked = isAsked(kind);
        if (!roster.hasNode(node) || asked && !roster.hasWord(first)) {
            return refuse(BEYOND);
        }
        if (!isKind(kind) || !isRank(rank) || !isWithin(t, T_LEAST, T_MOST)
                || !asked && !isWithin(first, 0, FIRST_MOST)) {
            return refuse(NO);
        }
        if (roster.holderOf(rank) != null) {
            return refuse(SAME);
        }
        if (roster.wordCount >= WORDS_MOST) {
            return refuse(FULL);
        }
        Word made = new Word(roster.wordCount, roster.nodes[node], rank, kind, t, first);
        made.leaveOutBefore(wire.tick);
        roster.addWord(made);
        wire.lookAtAllWords();
        desk.forgetOrder();
        return made.number;
    }

    public int late(int word, int late) {
        if (!roster.hasWord(word)) {
            return refuse(BEYOND);
        }
        Word told = roster.words[word];
        if (told.kind != SHAKEN) {
            return refuse(KIND);
        }
        if (!isWithin(late, 0, LATE_MOST)) {
            return refuse(NO);
        }
        int before = told.late;
        if (late != before) {
            told.late = late;
            wire.lookAtAllWords();
            desk.forgetOrder();
        }
        return before;
    }

    public int due(int word, int due) {
        if (!roster.hasWord(word)) {
            return refuse(BEYOND);
        }
        if (!isWithin(due, 1, DUE_MOST)) {
            return refuse(NO);
        }
        Word told = roster.words[word];
        int before = told.due;
        if (due != before) {
            told.due = due;
            desk.forgetOrder();
        }
        return before;
    }

    public int value(int word, long v) {
        if (!roster.hasWord(word)) {
            return refuse(BEYOND);
        }
        Word told = roster.words[word];
        int changed = told.value == v ? 0 : 1;
        told.value = v;
        return changed;
    }

    public int rank(int word, int rank) {
        if (!roster.hasWord(word)) {
            return refuse(BEYOND);
        }
        if (!isRank(rank)) {
            return refuse(NO);
        }
        Word told = roster.words[word];
        int before = told.rank;
        if (rank == before) {
            return before;
        }
        if (roster.holderOf(rank) != null) {
            return refuse(SAME);
        }
        told.rank = rank;
        desk.forgetOrder();
        return before;
    }

    public int of(int word, int what) {
        if (!roster.hasWord(word)) {
            return refuse(BEYOND);
        }
        if (!isWithin(what, 0, 11)) {
            return refuse(NO);
        }
        return roster.words[word].answer(what);
    }

    public int about(int node, int what) {
        if (!roster.hasNode(node)) {
            return refuse(BEYOND);
        }
        if (!isWithin(what, 0, 2)) {
            return refuse(NO);
        }
        return roster.nodes[node].answer(what);
    }

    // ---- frames

    public int size(int word) {
        if (!roster.hasWord(word)) {
            return refuse(BEYOND);
        }
        frame.build(roster.words[word]);
        return frame.length;
    }

    public int bit(int word, int i) {
        if (!roster.hasWord(word)) {
            return refuse(BEYOND);
        }
        if (i < 0) {
            return refuse(BELOW);
        }
        frame.build(roster.words[word]);
        return frame.bitAt(i);
    }

    public int sum(int word) {
        if (!roster.hasWord(word)) {
            return refuse(BEYOND);
        }
        frame.build(roster.words[word]);
        return frame.sum;
    }

    public int stuffed(int word) {
        if (!roster.hasWord(word)) {
            return refuse(BEYOND);
        }
        frame.build(roster.words[word]);
        return frame.stuffed;
    }

    public int ahead(int word, int other) {
        if (!roster.hasWord(word) || !roster.hasWord(other)) {
            return refuse(BEYOND);
        }
        return roster.words[other].goesAheadOf(roster.words[word]) ? other : word;
    }

    // ---- the tape

    public int feed(int bits, int n) {
        if (n < 0) {
            return refuse(BELOW);
        }
        if (n > FEED_MOST) {
            return refuse(NO);
        }
        if (!tape.hasRoom(n)) {
            return refuse(FULL);
        }
        for (int i = n - 1; i >= 0; i--) {
            tape.append((bits >>> i) & 1);
        }
        return tape.length;
    }

    public int lay(int word) {
        if (!roster.hasWord(word)) {
            return refuse(BEYOND);
        }
        frame.build(roster.words[word]);
        if (!tape.hasRoom(frame.length)) {
            return refuse(FULL);
        }
        for (int i = 0; i < frame.length; i++) {
            tape.append(frame.bitAt(i));
        }
        return tape.length;
    }

    public int bend(int at) {
        if (!tape.hasBit(at)) {
            return refuse(BEYOND);
        }
        tape.bits[at] = 1 - tape.bits[at];
        return tape.bits[at];
    }

    public int wipe() {
        int had = tape.length;
        tape.length = 0;
        return had;
    }

    public int read(int from) {
        if (!isWithin(from, 0, tape.length)) {
            return refuse(BEYOND);
        }
        reading.readFrom(from);
        return reading.fault;
    }

    public int told(int what) {
        if (!isWithin(what, 0, 4)) {
            return refuse(NO);
        }
        if (!reading.made) {
            return refuse(MISSING);
        }
        return reading.answer(what);
    }

    public long bytes() {
        return reading.bytes;
    }

    // ---- the run

    public int come(int word) {
        if (!roster.hasWord(word)) {
            return refuse(BEYOND);
        }
        Word told = roster.words[word];
        if (told.kind != RARE) {
            return refuse(KIND);
        }
        if (told.calledWithinT(wire.tick) || told.home.isOff()) {
            return refuse(NO);
        }
        told.called = true;
        told.calledAt = wire.tick;
        wire.lookAtAllWords();
        return 1;
    }

    public int disturb(int tick) {
        if (tick < wire.tick || wire.noise.isTold(tick)) {
            return refuse(NO);
        }
        if (wire.noise.count >= NOISE_MOST) {
            return refuse(FULL);
        }
        wire.noise.add(tick);
        return wire.noise.count;
    }

    public int run(int n) {
        if (n < 0) {
            return refuse(BELOW);
        }
        if (!isWithin(n, 1, RUN_MOST)) {
            return refuse(NO);
        }
        int before = wire.heard;
        for (int i = 0; i < n; i++) {
            wire.passTick();
        }
        return wire.heard - before;
    }

    public int count(int what) {
        if (!isWithin(what, 0, 7)) {
            return refuse(NO);
        }
        return wire.answer(what);
    }

    public int log(int i, int what) {
        if (!wire.log.hasEntry(i)) {
            return refuse(BEYOND);
        }
        if (!isWithin(what, 0, 3)) {
            return refuse(NO);
        }
        return wire.log.answer(i, what);
    }

    // ---- the desk

    public int every(int n) {
        if (n != 0 && !isWithin(n, EVERY_LEAST, EVERY_MOST)) {
            return refuse(NO);
        }
        int before = desk.faultsEvery;
        if (n != before) {
            desk.faultsEvery = n;
            desk.forgetOrder();
        }
        return before;
    }

    public int most(int word) {
        if (!roster.hasWord(word)) {
            return refuse(BEYOND);
        }
        return roster.words[word].cost();
    }

    public int worst(int word) {
        if (!roster.hasWord(word)) {
            return refuse(BEYOND);
        }
        return desk.worstByRank(roster.words[word]);
    }

    public int misses() {
        int unfit = 0;
        for (int i = 0; i < roster.wordCount; i++) {
            Word looked = roster.words[i];
            if (!looked.fits(desk.worstByRank(looked))) {
                unfit++;
            }
        }
        return unfit;
    }

    public long load() {
        long total = 0;
        for (int i = 0; i < roster.wordCount; i++) {
            Word looked = roster.words[i];
            total += quotient(LOAD_UNIT * looked.cost(), looked.t);
        }
        return total;
    }

    public int order() {
        return desk.seekOrder() ? 1 : 0;
    }

    public int place(int i) {
        if (!desk.orderStands) {
            return refuse(MISSING);
        }
        if (!roster.hasWord(i)) {
            return refuse(BEYOND);
        }
        return desk.places[i];
    }

    public int give() {
        if (!desk.orderStands) {
            return refuse(MISSING);
        }
        desk.giveRanks();
        return 1;
    }

    // ---- rows

    public int put(int word) {
        if (!roster.hasWord(word)) {
            return refuse(BEYOND);
        }
        Word told = roster.words[word];
        numbers.take(told.n, told.value);
        return told.n;
    }

    public int tear() {
        int was = numbers.there ? 1 : 0;
        numbers.there = false;
        return was;
    }

    public int row(int i) {
        if (!numbers.there) {
            return refuse(MISSING);
        }
        if (i < 0 || i >= numbers.length) {
            return refuse(BEYOND);
        }
        return numbers.bytes[i];
    }

    public int copy(int i, int j, int n) {
        if (!numbers.there) {
            return refuse(MISSING);
        }
        if (n < 0) {
            return refuse(BELOW);
        }
        if (!numbers.hasStretch(i, n) || !numbers.hasStretch(j, n)) {
            return refuse(COPY);
        }
        System.arraycopy(numbers.bytes, i, numbers.bytes, j, n);
        return n;
    }

    public int status(int by) {
        if (!isWithin(by, SAME, MISSING)) {
            return refuse(NO);
        }
        return refused[-by];
    }

    private int refuse(int by) {
        if (isWithin(by, SAME, MISSING)) {
            refused[-by]++;
        }
        return by;
    }

    private static boolean isWithin(int number, int least, int greatest) {
        return number >= least && number <= greatest;
    }

    private static boolean isRank(int rank) {
        return rank >= 0 && rank < RANKS;
    }

    /** Of KIND and n, told as 10 * KIND + n. */
    private static boolean isKind(int told) {
        return isWithin(told, 0, 10 * ASKED + BYTES_MOST) && told % 10 <= BYTES_MOST;
    }

    /** Also where n is not as it must be: FIRST is looked at ahead of n. */
    private static boolean isAsked(int told) {
        return isWithin(told, 10 * ASKED, 10 * ASKED + 9);
    }

    /** 0 for a divisor that can't be, so that no division fails. */
    private static long quotient(long number, long divisor) {
        return divisor <= 0 ? 0 : number / divisor;
    }

    private static int quotient(int number, int divisor) {
        return divisor <= 0 ? 0 : number / divisor;
    }

    private static int remainder(int number, int divisor) {
        return divisor <= 0 ? 0 : number % divisor;
    }

    /** The SUM of bits once one more bit came behind them. */
    private static int sumWith(int sum, int bit) {
        int turned = ((sum >>> (SUM_BITS - 1)) ^ bit) & 1;
        int shifted = (sum << 1) & SUM_MASK;
        return turned == 1 ? shifted ^ SUM_DIVISOR : shifted;
    }

    private static final class Node {
        final int number;
        int count;
        int offSince;
        int failed;

        Node(int number) {
            this.number = number;
        }

        boolean isOff() {
            return count >= OFF_FROM;
        }

        int answer(int what) {
            switch (what) {
                case 0:
                    return count;
                case 1:
                    return isOff() ? 2 : count >= QUIET_FROM ? 1 : 0;
                default:
                    return failed;
            }
        }
    }

    private static final class Word {
        final int number;
        final Node home;
        int rank;
        final int kind;
        final int n;
        final int t;
        final int first;
        int late;
        int due;
        long value;
        boolean waits;
        int came;
        int heard;
        int losses;
        int longest = NONE;
        /** k of the time that comes next. */
        int nextTime;
        /** Due in the next tick that runs, by hand or as an answer. */
        boolean called;
        int calledAt = NONE;

        Word(int number, Node home, int rank, int told, int t, int first) {
            this.number = number;
            this.home = home;
            this.rank = rank;
            this.kind = told / 10;
            this.n = told % 10;
            this.t = t;
            this.first = first;
            this.due = t;
        }

        void leaveOutBefore(int tick) {
            if (comesByTimes() && tick > first) {
                nextTime = quotient(tick - first + t - 1, t);
            }
        }

        boolean comesByTimes() {
            return kind == TIMED || kind == SHAKEN;
        }

        int timeWithoutLate() {
            return first + nextTime * t;
        }

        /** The tick from which on it is due; of a TIMED one LATE is 0. */
        int dueTick() {
            if (comesByTimes()) {
                return timeWithoutLate() + remainder(7 * nextTime, late + 1);
            }
            return called ? 0 : NEVER;
        }

        boolean calledWithinT(int tick) {
            return calledAt != NONE && tick - calledAt < t;
        }

        boolean isAnswerTo(Word other) {
            return kind == ASKED && first == other.number;
        }

        boolean goesAheadOf(Word other) {
            return rankKey() < other.rankKey();
        }

        /** The bits that AHEAD compares, as one number: behind a SHORT rank's 12 bits there are zeros. */
        int rankKey() {
            if (rank < FIRST_LONG) {
                return rank << (LOW_BITS + 1);
            }
            int long29 = rank - FIRST_LONG;
            int high = long29 >>> LOW_BITS;
            return (((high << 1) | 1) << LOW_BITS) | (long29 & LOW_MASK);
        }

        /** C at the desk. */
        int cost() {
            int plain = 32 + 8 * n + (rank < FIRST_LONG ? 0 : LOW_BITS);
            return plain + (plain - 1) / 4 + 13;
        }

        boolean fits(int worst) {
            return worst != NONE && worst <= due;
        }

        int answer(int what) {
            switch (what) {
                case 0:
                    return home.number;
                case 1:
                    return rank;
                case 2:
                    return kind;
                case 3:
                    return n;
                case 4:
                    return t;
                case 5:
                    return first;
                case 6:
                    return late;
                case 7:
                    return due;
                case 8:
                    return waits ? 1 : 0;
                case 9:
                    return heard;
                case 10:
                    return losses;
                default:
                    return longest;
            }
        }
    }

    private static final class Roster {
        final Node[] nodes = new Node[NODES_MOST];
        final Word[] words = new Word[WORDS_MOST];
        int nodeCount;
        int wordCount;

        boolean hasNode(int i) {
            return i >= 0 && i < nodeCount;
        }

        boolean hasWord(int i) {
            return i >= 0 && i < wordCount;
        }

        int addNode() {
            if (nodeCount < NODES_MOST) {
                nodes[nodeCount] = new Node(nodeCount);
                nodeCount++;
            }
            return nodeCount - 1;
        }

        void addWord(Word made) {
            if (wordCount < WORDS_MOST) {
                words[wordCount] = made;
                wordCount++;
            }
        }

        Word holderOf(int rank) {
            for (int i = 0; i < wordCount; i++) {
                if (words[i].rank == rank) {
                    return words[i];
                }
            }
            return null;
        }
    }

    /** The bits of one FRAME, stuffed and with its TAIL; built anew for each use. */
    private static final class Frame {
        final int[] bits = new int[FRAME_MOST];
        int length;
        int stuffed;
        int sum;
        int summed;
        int alike;
        int latest;

        void build(Word word) {
            length = 0;
            stuffed = 0;
            summed = 0;
            alike = 0;
            latest = NONE;
            addNumber(0, 1);
            boolean isLong = word.rank >= FIRST_LONG;
            int number = isLong ? word.rank - FIRST_LONG : word.rank;
            addNumber(isLong ? number >>> LOW_BITS : number, HIGH_BITS);
            addNumber(isLong ? 1 : 0, 1);
            if (isLong) {
                addNumber(number, LOW_BITS);
            }
            addNumber(word.n, COUNT_BITS);
            for (int i = word.n - 1; i >= 0; i--) {
                addNumber((int) (word.value >>> (8 * i)), 8);
            }
            sum = summed;
            addNumber(sum, SUM_BITS);
            for (int i = 0; i < TAIL.length; i++) {
                push(TAIL[i]);
            }
        }

        /** The lowest bits of a number, the highest of these first. */
        void addNumber(int number, int width) {
            for (int i = width - 1; i >= 0; i--) {
                addPlain((number >>> i) & 1);
            }
        }

        void addPlain(int bit) {
            summed = sumWith(summed, bit);
            alike = bit == latest ? alike + 1 : 1;
            latest = bit;
            push(bit);
            if (alike == ALIKE_MOST) {
                latest = 1 - bit;
                alike = 1;
                stuffed++;
                push(latest);
            }
        }

        void push(int bit) {
            if (length < FRAME_MOST) {
                bits[length] = bit;
                length++;
            }
        }

        int bitAt(int i) {
            return i >= 0 && i < length ? bits[i] : NONE;
        }
    }

    private static final class Tape {
        final int[] bits = new int[TAPE_MOST];
        int length;

        boolean hasRoom(int more) {
            return more <= TAPE_MOST - length;
        }

        boolean hasBit(int at) {
            return at >= 0 && at < length;
        }

        void append(int bit) {
            if (length < TAPE_MOST) {
                bits[length] = bit;
                length++;
            }
        }
    }

    /** What the latest read of THE TAPE found. */
    private static final class Reading {
        final Tape tape;
        boolean made;
        int fault;
        int place;
        int rank;
        int n;
        int sum;
        int takenOut;
        long bytes;
        int summed;
        int alike;
        int latest;

        Reading(Tape tape) {
            this.tape = tape;
        }

        int answer(int what) {
            switch (what) {
                case 0:
                    return place;
                case 1:
                    return rank;
                case 2:
                    return n;
                case 3:
                    return takenOut;
                default:
                    return sum;
            }
        }

        void readFrom(int from) {
            made = true;
            fault = 0;
            place = from;
            rank = NONE;
            n = NONE;
            sum = NONE;
            takenOut = 0;
            bytes = 0;
            summed = 0;
            alike = 0;
            latest = NONE;
            if (readStart() && readRank() && readCount() && readBytes() && readSum()) {
                readTail();
            }
        }

        boolean readStart() {
            int start = takeNumber(1);
            return start != NONE && (start == 0 || faultAtLatest(1));
        }

        boolean readRank() {
            int high = takeNumber(HIGH_BITS);
            int isLong = takeNumber(1);
            if (isLong == NONE) {
                return false;
            }
            if (isLong == 0) {
                rank = high;
                return true;
            }
            int low = takeNumber(LOW_BITS);
            if (low == NONE) {
                return false;
            }
            rank = FIRST_LONG + ((high << LOW_BITS) | low);
            return true;
        }

        boolean readCount() {
            n = takeNumber(COUNT_BITS);
            return n != NONE && (n <= BYTES_MOST || faultAtLatest(3));
        }

        boolean readBytes() {
            for (int i = 0; i < n; i++) {
                int next = takeNumber(8);
                if (next == NONE) {
                    return false;
                }
                bytes = (bytes << 8) | next;
            }
            return true;
        }

        boolean readSum() {
            int due = summed;
            sum = takeNumber(SUM_BITS);
            return sum != NONE && (sum == due || faultAtLatest(4)) && takeOutStuffed();
        }

        void readTail() {
            for (int i = 0; i < TAIL.length; i++) {
                if (!tape.hasBit(place)) {
                    faultHere(6);
                    return;
                }
                if (tape.bits[place] != TAIL[i]) {
                    faultHere(5);
                    return;
                }
                place++;
            }
        }

        /** The number of that many plain bits; NONE where a fault came ahead of its last one. */
        int takeNumber(int width) {
            int number = 0;
            for (int i = 0; i < width; i++) {
                int bit = takePlain();
                if (bit == NONE) {
                    return NONE;
                }
                number = (number << 1) | bit;
            }
            return number;
        }

        int takePlain() {
            if (fault != 0 || !takeOutStuffed()) {
                return NONE;
            }
            if (!tape.hasBit(place)) {
                faultHere(6);
                return NONE;
            }
            int bit = tape.bits[place];
            place++;
            summed = sumWith(summed, bit);
            alike = bit == latest ? alike + 1 : 1;
            latest = bit;
            return bit;
        }

        /** Looks for a stuffed bit only as the next one is wanted: what ends ahead of it has come. */
        boolean takeOutStuffed() {
            if (alike < ALIKE_MOST) {
                return true;
            }
            if (!tape.hasBit(place)) {
                return faultHere(6);
            }
            if (tape.bits[place] == latest) {
                return faultHere(2);
            }
            latest = 1 - latest;
            alike = 1;
            takenOut++;
            place++;
            return true;
        }

        boolean faultHere(int number) {
            fault = number;
            return false;
        }

        boolean faultAtLatest(int number) {
            place--;
            return faultHere(number);
        }
    }

    /** DISTURBED ticks that are open or later, the least first. */
    private static final class Noise {
        final int[] ticks = new int[NOISE_MOST];
        int count;

        boolean isTold(int tick) {
            for (int i = 0; i < count; i++) {
                if (ticks[i] == tick) {
                    return true;
                }
            }
            return false;
        }

        boolean isFirst(int tick) {
            return count > 0 && ticks[0] == tick;
        }

        void add(int tick) {
            if (count >= NOISE_MOST) {
                return;
            }
            int at = count;
            while (at > 0 && ticks[at - 1] > tick) {
                ticks[at] = ticks[at - 1];
                at--;
            }
            ticks[at] = tick;
            count++;
        }

        void forget(int tick) {
            if (isFirst(tick)) {
                count--;
                System.arraycopy(ticks, 1, ticks, 0, count);
            }
        }
    }

    /** The latest frames that were HEARD or FAILED, in a ring. */
    private static final class Log {
        final int[] words = new int[LOG_MOST];
        final int[] begun = new int[LOG_MOST];
        final int[] ended = new int[LOG_MOST];
        final int[] times = new int[LOG_MOST];
        int kept;
        int next;

        void add(int word, int began, int end, int time) {
            words[next] = word;
            begun[next] = began;
            ended[next] = end;
            times[next] = time;
            next = (next + 1) % LOG_MOST;
            kept = Math.min(kept + 1, LOG_MOST);
        }

        boolean hasEntry(int i) {
            return i >= 0 && i < kept;
        }

        int answer(int i, int what) {
            int at = (next - 1 - i + 2 * LOG_MOST) % LOG_MOST;
            switch (what) {
                case 0:
                    return words[at];
                case 1:
                    return begun[at];
                case 2:
                    return ended[at];
                default:
                    return times[at];
            }
        }
    }

    /** TICKS, and the frame that is under way. */
    private static final class Wire {
        final Roster roster;
        final Frame frame;
        final Noise noise = new Noise();
        final Log log = new Log();
        int tick;
        int freeFrom;
        int heard;
        int failed;
        Word current;
        int currentCame;
        int began;
        int lastTick;
        int unheardTick;
        int waiting;
        int offNodes;
        /** No word is due ahead of this tick, so that most ticks needn't look at all of them. */
        int soonest;

        Wire(Roster roster, Frame frame) {
            this.roster = roster;
            this.frame = frame;
        }

        int answer(int what) {
            switch (what) {
                case 0:
                    return tick;
                case 1:
                    return heard;
                case 2:
                    return failed;
                case 3:
                    return current == null ? NONE : current.number;
                case 4:
                    return current == null ? freeFrom : NONE;
                case 5:
                    return roster.nodeCount;
                case 6:
                    return roster.wordCount;
                default:
                    return noise.count;
            }
        }

        void lookAtAllWords() {
            soonest = 0;
        }

        void passTick() {
            if (offNodes > 0) {
                wakeNodes();
            }
            if (tick >= soonest) {
                letWordsCome();
            }
            if (current == null && waiting > 0 && tick >= freeFrom) {
                begin();
            }
            if (current != null) {
                if (tick == unheardTick || noise.isFirst(tick)) {
                    fail(current);
                } else if (tick == lastTick) {
                    hear(current);
                }
            }
            noise.forget(tick);
            tick++;
        }

        void wakeNodes() {
            for (int i = 0; i < roster.nodeCount; i++) {
                Node node = roster.nodes[i];
                if (node.isOff() && tick - node.offSince >= OFF_TICKS) {
                    node.count = 0;
                    offNodes--;
                }
            }
        }

        void letWordsCome() {
            int next = NEVER;
            for (int i = 0; i < roster.wordCount; i++) {
                Word word = roster.words[i];
                if (word.dueTick() <= tick) {
                    letCome(word);
                }
                next = Math.min(next, word.dueTick());
            }
            soonest = next;
        }

        void letCome(Word word) {
            int from = tick;
            if (word.comesByTimes()) {
                from = word.timeWithoutLate();
                word.nextTime++;
            }
            word.called = false;
            if (word.home.isOff()) {
                return;
            }
            if (word.waits) {
                word.losses++;
            }
            startWaiting(word, from);
        }

        void startWaiting(Word word, int from) {
            if (!word.waits) {
                waiting++;
            }
            word.waits = true;
            word.came = from;
        }

        void stopWaiting(Word word) {
            if (word.waits) {
                waiting--;
            }
            word.waits = false;
        }

        void begin() {
            Word word = firstThatWaits();
            if (word == null) {
                return;
            }
            stopWaiting(word);
            frame.build(word);
            current = word;
            currentCame = word.came;
            began = tick;
            lastTick = tick + frame.length - 1;
            unheardTick = isAlone(word.home) ? tick + frame.length - UNHEARD_FROM_END : NEVER;
        }

        Word firstThatWaits() {
            Word first = null;
            for (int i = 0; i < roster.wordCount; i++) {
                Word word = roster.words[i];
                if (word.waits && (first == null || word.goesAheadOf(first))) {
                    first = word;
                }
            }
            return first;
        }

        boolean isAlone(Node node) {
            for (int i = 0; i < roster.nodeCount; i++) {
                if (roster.nodes[i] != node && !roster.nodes[i].isOff()) {
                    return false;
                }
            }
            return true;
        }

        void fail(Word word) {
            failed++;
            word.home.failed++;
            log.add(word.number, began, tick, NONE);
            if (word.waits) {
                word.losses++;
            } else {
                startWaiting(word, currentCame);
            }
            current = null;
            freeFrom = tick + FREE_AFTER_FAIL;
            blame(word.home);
        }

        /** Behind the word's new waiting, as a node that becomes OFF by this lets none wait. */
        void blame(Node sender) {
            for (int i = 0; i < roster.nodeCount; i++) {
                Node node = roster.nodes[i];
                if (!node.isOff()) {
                    node.count += node == sender ? FAIL_BLAME : 1;
                    if (node.isOff()) {
                        silence(node);
                    }
                }
            }
        }

        void silence(Node node) {
            node.offSince = tick;
            offNodes++;
            for (int i = 0; i < roster.wordCount; i++) {
                if (roster.words[i].home == node) {
                    stopWaiting(roster.words[i]);
                }
            }
        }

        void hear(Word word) {
            int time = tick - currentCame;
            heard++;
            word.heard++;
            word.longest = Math.max(word.longest, time);
            log.add(word.number, began, tick, time);
            for (int i = 0; i < roster.nodeCount; i++) {
                Node node = roster.nodes[i];
                if (!node.isOff()) {
                    node.count = Math.max(node.count - 1, 0);
                }
            }
            for (int i = 0; i < roster.wordCount; i++) {
                if (roster.words[i].isAnswerTo(word)) {
                    roster.words[i].called = true;
                }
            }
            lookAtAllWords();
            current = null;
            freeFrom = tick + FREE_AFTER_HEARD;
        }
    }

    /** Worst times, by ranks as told or by places in an order that is sought. */
    private static final class Desk {
        final Roster roster;
        final boolean[] higher = new boolean[WORDS_MOST];
        final boolean[] left = new boolean[WORDS_MOST];
        final int[] costs = new int[WORDS_MOST];
        final int[] places = new int[WORDS_MOST];
        final int[] ranks = new int[WORDS_MOST];
        boolean orderStands;
        int faultsEvery;
        /** B, and what one fault costs, of the word that is looked at. */
        int blocked;
        int faultCost;

        Desk(Roster roster) {
            this.roster = roster;
        }

        void forgetOrder() {
            orderStands = false;
        }

        int worstByRank(Word word) {
            for (int i = 0; i < roster.wordCount; i++) {
                higher[i] = roster.words[i].goesAheadOf(word);
            }
            return worstBelowHigher(word);
        }

        void putBehindOthersLeft(Word word) {
            for (int i = 0; i < roster.wordCount; i++) {
                higher[i] = left[i] && i != word.number;
            }
        }

        int worstBelowHigher(Word word) {
            weigh(word);
            int busy = leastFrom(1, word, ALL);
            if (busy == NONE) {
                return NONE;
            }
            int worst = 0;
            int w = 0;
            for (int q = 0; q <= W_MOST && q * word.t < busy + word.late; q++) {
                w = leastFrom(w, word, q);
                if (w == NONE) {
                    return NONE;
                }
                worst = Math.max(worst, word.late + w - q * word.t + word.cost());
            }
            return worst;
        }

        void weigh(Word word) {
            int lower = 0;
            int greatest = word.cost();
            for (int i = 0; i < roster.wordCount; i++) {
                costs[i] = roster.words[i].cost();
                if (higher[i]) {
                    greatest = Math.max(greatest, costs[i]);
                } else if (i != word.number) {
                    lower = Math.max(lower, costs[i]);
                }
            }
            blocked = Math.max(lower - 1, 0);
            faultCost = FAULT_COST + greatest;
        }

        /**
         * BUSY for q = ALL, else W(q). W(q) may be sought from W(q - 1) on, which is never above it:
         * the least one is found all the same.
         */
        int leastFrom(int start, Word word, int q) {
            int w = start;
            for (int i = 0; i <= W_MOST; i++) {
                int own = q == ALL ? placesIn(w - 1, word) : q;
                int higherOnes = higherIn(q == ALL ? w - 1 : w);
                int next = blocked + faultsIn(w) + own * word.cost() + higherOnes;
                if (next == w) {
                    return w;
                }
                if (next > W_MOST) {
                    return NONE;
                }
                w = next;
            }
            return NONE;
        }

        int placesIn(int w, Word word) {
            return word.t <= 0 ? 0 : (w + word.late + word.t) / word.t;
        }

        int faultsIn(int w) {
            return faultsEvery == 0 ? 0 : quotient(w + faultsEvery, faultsEvery) * faultCost;
        }

        /** The sum, of HIGHER ones, of PLACES times C. */
        int higherIn(int w) {
            int total = 0;
            for (int i = 0; i < roster.wordCount; i++) {
                if (higher[i]) {
                    total += placesIn(w, roster.words[i]) * costs[i];
                }
            }
            return total;
        }

        boolean seekOrder() {
            orderStands = false;
            for (int i = 0; i < roster.wordCount; i++) {
                left[i] = true;
            }
            for (int place = roster.wordCount - 1; place >= 0; place--) {
                Word fit = leastLeftThatFits();
                if (fit == null) {
                    return false;
                }
                places[place] = fit.number;
                left[fit.number] = false;
            }
            orderStands = true;
            return true;
        }

        Word leastLeftThatFits() {
            for (int i = 0; i < roster.wordCount; i++) {
                if (left[i]) {
                    Word word = roster.words[i];
                    putBehindOthersLeft(word);
                    if (word.fits(worstBelowHigher(word))) {
                        return word;
                    }
                }
            }
            return null;
        }

        void giveRanks() {
            sortRanks();
            for (int i = 0; i < roster.wordCount; i++) {
                Word word = wordAtPlace(i);
                if (word != null && word.rank != ranks[i]) {
                    word.rank = ranks[i];
                    orderStands = false;
                }
            }
        }

        Word wordAtPlace(int i) {
            return roster.hasWord(places[i]) ? roster.words[places[i]] : null;
        }

        /** The RANKS that there are, the one that goes ahead of all first. */
        void sortRanks() {
            for (int i = 0; i < roster.wordCount; i++) {
                int before = 0;
                for (int k = 0; k < roster.wordCount; k++) {
                    if (roster.words[k].goesAheadOf(roster.words[i])) {
                        before++;
                    }
                }
                if (before < WORDS_MOST) {
                    ranks[before] = roster.words[i].rank;
                }
            }
        }
    }

    /** THE ROW: bytes of a word, as numbers. */
    private static final class Row {
        final byte[] bytes = new byte[BYTES_MOST];
        int length;
        boolean there;

        void take(int n, long value) {
            there = true;
            length = Math.min(n, BYTES_MOST);
            for (int i = 0; i < length; i++) {
                bytes[i] = (byte) (value >>> (8 * (length - 1 - i)));
            }
        }

        boolean hasStretch(int from, int n) {
            return from >= 0 && n <= length - from;
        }
    }
}
