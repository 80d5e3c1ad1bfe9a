import java.util.Random;

/** Long runs of calls, chosen by fixed seeds, on RankWire and on the plain model: each answer is the same. */
public final class ModelTest {
    private static final int CALLS = 512;
    private static final int[] ODD = {Integer.MIN_VALUE, -10, -9, -2, -1, 0, 1, 2, 7, 8, 9, 24, 32, 33, 99, 2000, 5001, Integer.MAX_VALUE};

    private final Random random;
    private final RankWire x = new RankWire();
    private final PlainModel m = new PlainModel();
    private final StringBuilder told = new StringBuilder();
    private boolean same = true;

    private ModelTest(long seed) {
        random = new Random(seed);
    }

    private int upTo(int n) {
        return random.nextInt(n + 1);
    }

    private int odd() {
        return ODD[random.nextInt(ODD.length)];
    }

    /** Mostly a number that may be right, now and then one that can't. */
    private int mostly(int usual) {
        return upTo(29) == 0 ? odd() : usual;
    }

    private int aWord() {
        return mostly(upTo(Math.max(m.words.size() - 1, 0)));
    }

    private int aRank() {
        switch (upTo(5)) {
            case 0: return upTo(30);
            case 1: return 2047 - upTo(3);
            case 2: return 2048 + upTo(5);
            case 3: return 2048 + (1 << 29) - upTo(3);
            case 4: return 2048 + random.nextInt(1 << 29);
            default: return random.nextInt(2048);
        }
    }

    private long aValue() {
        switch (upTo(3)) {
            case 0: return 0;
            case 1: return -1;
            case 2: return upTo(300);
            default: return random.nextLong();
        }
    }

    private int aT(int dense) {
        return dense == 0 ? 100 + upTo(200) : dense == 1 ? 300 + upTo(1500) : 1000 + upTo(9000);
    }

    private void same(String call, long got, long want) {
        told.append(call).append(" = ").append(want).append('\n');
        if (got != want) {
            told.append("   but answered ").append(got).append('\n');
            same = false;
        }
    }

    private void addWord(int dense) {
        int node = mostly(upTo(Math.max(m.nodes.size() - 1, 0)));
        int kind = mostly(10 * upTo(3) + upTo(8));
        int t = mostly(aT(dense));
        int first = kind >= 30 ? aWord() : mostly(upTo(m.tick + 400));
        int rank = mostly(aRank());
        same("word(" + node + ", " + rank + ", " + kind + ", " + t + ", " + first + ")",
            x.word(node, rank, kind, t, first), m.word(node, rank, kind, t, first));
    }

    private void aboutWords() {
        int w = aWord();
        int a = mostly(upTo(11));
        switch (upTo(7)) {
            case 0: { int l = mostly(upTo(1) * upTo(1000)); same("late(" + w + ", " + l + ")", x.late(w, l), m.late(w, l)); break; }
            case 1: { int d = mostly(1 + upTo(3000)); same("due(" + w + ", " + d + ")", x.due(w, d), m.due(w, d)); break; }
            case 2: { long v = aValue(); same("value(" + w + ", " + v + ")", x.value(w, v), m.value(w, v)); break; }
            case 3: { int r = mostly(aRank()); same("rank(" + w + ", " + r + ")", x.rank(w, r), m.rank(w, r)); break; }
            case 4: { int n = mostly(upTo(9)); int q = mostly(upTo(2)); same("about(" + n + ", " + q + ")", x.about(n, q), m.about(n, q)); break; }
            default: same("of(" + w + ", " + a + ")", x.of(w, a), m.of(w, a));
        }
    }

    private void aboutFrames() {
        int w = aWord();
        switch (upTo(4)) {
            case 0: same("size(" + w + ")", x.size(w), m.size(w)); break;
            case 1: { int i = mostly(upTo(160)); same("bit(" + w + ", " + i + ")", x.bit(w, i), m.bit(w, i)); break; }
            case 2: same("sum(" + w + ")", x.sum(w), m.sum(w)); break;
            case 3: same("stuffed(" + w + ")", x.stuffed(w), m.stuffed(w)); break;
            default: { int o = aWord(); same("ahead(" + w + ", " + o + ")", x.ahead(w, o), m.ahead(w, o)); }
        }
    }

    private void aboutTape() {
        int end = m.tape.length();
        switch (upTo(9)) {
            case 0: { int b = random.nextInt() & random.nextInt(); int n = mostly(upTo(32)); same("feed(" + b + ", " + n + ")", x.feed(b, n), m.feed(b, n)); break; }
            case 1: case 2: { int w = aWord(); same("lay(" + w + ")", x.lay(w), m.lay(w)); break; }
            case 3: { int at = mostly(upTo(end)); same("bend(" + at + ")", x.bend(at), m.bend(at)); break; }
            case 4: if (upTo(5) == 0) same("wipe()", x.wipe(), m.wipe()); break;
            default: {
                int from = mostly(upTo(2) == 0 ? upTo(end) : upTo(1) == 0 ? 0 : Math.min(m.readPlace, end));
                same("read(" + from + ")", x.read(from), m.read(from));
                for (int i = 0; i < 5; i++) same("told(" + i + ")", x.told(i), m.told(i));
                same("bytes()", x.bytes(), m.bytes());
            }
        }
    }

    private void aboutRun() {
        switch (upTo(7)) {
            case 0: { int w = aWord(); same("come(" + w + ")", x.come(w), m.come(w)); break; }
            case 1: { int t = mostly(m.tick + upTo(400)); same("disturb(" + t + ")", x.disturb(t), m.disturb(t)); break; }
            case 2: { int c = mostly(upTo(7)); same("count(" + c + ")", x.count(c), m.count(c)); break; }
            case 3: { int i = mostly(upTo(42)); int c = mostly(upTo(3)); same("log(" + i + ", " + c + ")", x.log(i, c), m.log(i, c)); break; }
            default: { int n = mostly(upTo(9) == 0 ? upTo(5000) : upTo(1) == 0 ? upTo(5) : upTo(150)); same("run(" + n + ")", x.run(n), m.run(n)); }
        }
    }

    private void aboutDesk() {
        switch (upTo(9)) {
            case 0: { int n = mostly(upTo(1) * (100 + upTo(5000))); same("every(" + n + ")", x.every(n), m.every(n)); break; }
            case 1: { int w = aWord(); same("most(" + w + ")", x.most(w), m.most(w)); break; }
            case 2: same("misses()", x.misses(), m.misses()); break;
            case 3: same("load()", x.load(), m.load()); break;
            case 4: same("order()", x.order(), m.order()); break;
            case 5: { int i = mostly(upTo(24)); same("place(" + i + ")", x.place(i), m.place(i)); break; }
            case 6: if (upTo(3) == 0) same("give()", x.give(), m.give()); break;
            default: { int w = aWord(); same("worst(" + w + ")", x.worst(w), m.worst(w)); }
        }
    }

    private void aboutRows() {
        switch (upTo(4)) {
            case 0: { int w = aWord(); same("put(" + w + ")", x.put(w), m.put(w)); break; }
            case 1: if (upTo(4) == 0) same("tear()", x.tear(), m.tear()); break;
            case 2: { int i = mostly(upTo(8)); same("row(" + i + ")", x.row(i), m.row(i)); break; }
            case 3: { int i = mostly(upTo(8)); int j = mostly(upTo(8)); int n = mostly(upTo(5)); same("copy(" + i + ", " + j + ", " + n + ")", x.copy(i, j, n), m.copy(i, j, n)); break; }
            default: { int by = mostly(-2 - upTo(7)); same("status(" + by + ")", x.status(by), m.status(by)); }
        }
    }

    /** All that can be asked of the run, after each call of it. */
    private void wholeState() {
        for (int i = 0; i < m.nodes.size(); i++) for (int c = 0; c < 3; c++) same("about(" + i + ", " + c + ")", x.about(i, c), m.about(i, c));
        for (int i = 0; i < m.words.size(); i++) for (int c = 0; c < 12; c++) same("of(" + i + ", " + c + ")", x.of(i, c), m.of(i, c));
        for (int c = 0; c < 8; c++) same("count(" + c + ")", x.count(c), m.count(c));
        for (int i = 0; i < 41; i++) for (int c = 0; c < 4; c++) same("log(" + i + ", " + c + ")", x.log(i, c), m.log(i, c));
        for (int by = -9; by < -1; by++) same("status(" + by + ")", x.status(by), m.status(by));
        for (int i = 0; i < 24; i++) same("place(" + i + ")", x.place(i), m.place(i));
    }

    private boolean go() {
        int theme = upTo(5);
        int dense = upTo(2);
        int nodes = 1 + upTo(upTo(1) == 0 ? 1 : 10);
        int words = upTo(1) == 0 ? 1 + upTo(5) : 30;
        for (int i = 0; i < CALLS && same; i++) {
            int pick = upTo(99);
            if (m.nodes.size() < nodes && pick < 40) same("node()", x.node(), m.node());
            else if (m.words.size() < words && upTo(5) == 0) addWord(dense);
            else if (pick < 55) themed(theme);
            else if (pick < 70) aboutWords();
            else themed(upTo(5));
        }
        if (same) wholeState();
        if (!same) System.out.println(told);
        return same;
    }

    private void themed(int theme) {
        switch (theme) {
            case 0: aboutFrames(); break;
            case 1: aboutTape(); break;
            case 2: aboutDesk(); break;
            case 3: aboutRows(); break;
            default: aboutRun();
        }
    }

    public static void main(String[] args) {
        int seeds = args.length > 0 ? Integer.parseInt(args[0]) : 400;
        for (int seed = 0; seed < seeds; seed++) {
            if (!new ModelTest(seed).go()) {
                System.out.println("RankWire and the model differ, seed " + seed);
                System.exit(1);
            }
        }
        System.out.println(seeds + " runs, all as the model has them");
    }
}
