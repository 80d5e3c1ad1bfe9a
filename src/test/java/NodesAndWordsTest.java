/** Promises 1 to 9: a new object, nodes and words. */
public final class NodesAndWordsTest {
    private static final Check c = new Check();
    private static final int LAST_RANK = 2048 + (1 << 29) - 1;

    public static void main(String[] args) {
        newObject();
        nodes();
        wordNumbers();
        wordBeyond();
        wordNo();
        wordSameAndFull();
        lates();
        dues();
        values();
        ranks();
        ofWords();
        aboutNodes();
        c.end();
    }

    private static void newObject() {
        RankWire x = new RankWire();
        int[] counts = {0, 0, 0, RankWire.NONE, 0, 0, 0, 0};
        for (int i = 0; i < counts.length; i++) {
            c.due("1: count(" + i + ")", x.count(i), counts[i]);
        }
        c.due("1: wipe()", x.wipe(), 0);
        c.due("1: bytes()", x.bytes(), 0);
        c.due("1: tear()", x.tear(), 0);
        c.due("1: every(0)", x.every(0), 0);
        c.due("1: misses()", x.misses(), 0);
        c.due("1: load()", x.load(), 0);
        for (int by = -9; by <= -2; by++) {
            c.due("1: status(" + by + ")", x.status(by), 0);
        }
        c.due("1: of(0, 0)", x.of(0, 0), RankWire.BEYOND);
        c.due("1: about(0, 0)", x.about(0, 0), RankWire.BEYOND);
        c.due("1: log(0, 0)", x.log(0, 0), RankWire.BEYOND);
        c.due("1: bend(0)", x.bend(0), RankWire.BEYOND);
        c.due("1: told(0)", x.told(0), RankWire.MISSING);
        c.due("1: place(0)", x.place(0), RankWire.MISSING);
        c.due("1: give()", x.give(), RankWire.MISSING);
    }

    private static void nodes() {
        RankWire x = new RankWire();
        for (int i = 0; i < 10; i++) {
            c.due("2: node()", x.node(), i);
        }
        c.due("2: node(), the 11th", x.node(), RankWire.FULL);
        c.due("2: node(), the 12th", x.node(), RankWire.FULL);
        c.due("2: count(5)", x.count(5), 10);
        c.due("2: status(FULL)", x.status(RankWire.FULL), 2);
    }

    private static void wordNumbers() {
        RankWire x = Wires.withNodes(2);
        c.due("3: TIMED", x.word(0, 0, 8, 100, 0), 0);
        c.due("3: SHAKEN", x.word(1, 2047, 18, 100000, 100000), 1);
        c.due("3: RARE", x.word(1, 2048, 20, 101, 3), 2);
        c.due("3: ASKED", x.word(0, LAST_RANK, 38, 102, 2), 3);
        c.due("3: ASKED of an ASKED one", x.word(0, 9, 30, 103, 3), 4);
        c.due("3: count(6)", x.count(6), 5);
    }

    private static void wordBeyond() {
        RankWire x = Wires.withNodes(1);
        c.due("3: no such node", x.word(1, 1, 0, 100, 0), RankWire.BEYOND);
        c.due("3: node -1", x.word(-1, 1, 0, 100, 0), RankWire.BEYOND);
        c.due("3: BEYOND ahead of NO", x.word(1, -1, 99, 1, -1), RankWire.BEYOND);
        c.due("3: ASKED of none", x.word(0, 1, 30, 100, 0), RankWire.BEYOND);
        c.due("3: word 0", x.word(0, 1, 0, 100, 0), 0);
        c.due("3: ASKED of itself", x.word(0, 2, 30, 100, 1), RankWire.BEYOND);
        c.due("3: ASKED of -1", x.word(0, 2, 30, 100, -1), RankWire.BEYOND);
        c.due("3: ASKED of none, ahead of n", x.word(0, 2, 39, 100, 1), RankWire.BEYOND);
        c.due("3: ASKED of none, ahead of SAME", x.word(0, 1, 30, 100, 1), RankWire.BEYOND);
        c.due("3: ASKED of 0", x.word(0, 2, 30, 100, 0), 1);
        c.due("3: status(BEYOND)", x.status(RankWire.BEYOND), 8);
        c.due("3: count(6)", x.count(6), 2);
    }

    private static void wordNo() {
        RankWire x = Wires.withNodes(1);
        x.word(0, 7, 0, 100, 0);
        int[] kinds = {-1, -10, 9, 19, 29, 39, 40, 48, 400, Integer.MIN_VALUE, Integer.MAX_VALUE};
        for (int kind : kinds) {
            c.due("3: kind " + kind, x.word(0, 1, kind, 100, 0), RankWire.NO);
        }
        int[] ranks = {-1, LAST_RANK + 1, Integer.MIN_VALUE, Integer.MAX_VALUE};
        for (int rank : ranks) {
            c.due("3: rank " + rank, x.word(0, rank, 0, 100, 0), RankWire.NO);
        }
        int[] ts = {99, 100001, 0, -100};
        for (int t : ts) {
            c.due("3: t " + t, x.word(0, 1, 0, t, 0), RankWire.NO);
            c.due("3: t " + t + " of an ASKED one", x.word(0, 1, 30, t, 0), RankWire.NO);
        }
        int[] firsts = {-1, 100001};
        for (int first : firsts) {
            for (int kind = 0; kind < 30; kind += 10) {
                c.due("3: first " + first, x.word(0, 1, kind, 100, first), RankWire.NO);
            }
        }
        c.due("3: NO ahead of SAME", x.word(0, 7, 0, 99, 0), RankWire.NO);
        c.due("3: count(6)", x.count(6), 1);
    }

    private static void wordSameAndFull() {
        RankWire x = Wires.withNodes(1);
        for (int i = 0; i < 24; i++) {
            c.due("3: word", x.word(0, 100 + i, 0, 100, 0), i);
            c.due("3: its RANK again", x.word(0, 100 + i, 20, 200, 5), RankWire.SAME);
        }
        c.due("3: the 25th", x.word(0, 50, 0, 100, 0), RankWire.FULL);
        c.due("3: SAME ahead of FULL", x.word(0, 100, 0, 100, 0), RankWire.SAME);
        c.due("3: NO ahead of FULL", x.word(0, 50, 9, 100, 0), RankWire.NO);
        c.due("3: count(6)", x.count(6), 24);
        c.due("3: status(SAME)", x.status(RankWire.SAME), 25);
        c.due("3: status(FULL)", x.status(RankWire.FULL), 1);
    }

    private static void lates() {
        RankWire x = Wires.withNodes(1);
        x.word(0, 1, 0, 100, 0);
        x.word(0, 2, 10, 100, 0);
        x.word(0, 3, 20, 100, 0);
        x.word(0, 4, 30, 100, 0);
        c.due("4: late(1, 1000)", x.late(1, 1000), 0);
        c.due("4: late(1, 0)", x.late(1, 0), 1000);
        c.due("4: late(1, 5)", x.late(1, 5), 0);
        c.due("4: late(1, 1001)", x.late(1, 1001), RankWire.NO);
        c.due("4: late(1, -1)", x.late(1, -1), RankWire.NO);
        c.due("4: of(1, 6)", x.of(1, 6), 5);
        c.due("4: late of a TIMED one", x.late(0, 5), RankWire.KIND);
        c.due("4: late of a RARE one", x.late(2, 5), RankWire.KIND);
        c.due("4: late of an ASKED one", x.late(3, 5), RankWire.KIND);
        c.due("4: KIND ahead of NO", x.late(0, -1), RankWire.KIND);
        c.due("4: late(4, -1)", x.late(4, -1), RankWire.BEYOND);
        c.due("4: late(-1, 0)", x.late(-1, 0), RankWire.BEYOND);
    }

    private static void dues() {
        RankWire x = Wires.withNodes(1);
        x.word(0, 1, 0, 777, 0);
        c.due("5: due(0, 1)", x.due(0, 1), 777);
        c.due("5: due(0, 1000000)", x.due(0, 1000000), 1);
        c.due("5: due(0, 0)", x.due(0, 0), RankWire.NO);
        c.due("5: due(0, 1000001)", x.due(0, 1000001), RankWire.NO);
        c.due("5: due(0, 3)", x.due(0, 3), 1000000);
        c.due("5: due(1, 0)", x.due(1, 0), RankWire.BEYOND);
        c.due("5: due(-1, 5)", x.due(-1, 5), RankWire.BEYOND);
    }

    private static void values() {
        RankWire x = Wires.withNodes(1);
        x.word(0, 1, 1, 100, 0);
        c.due("6: value(0, 0)", x.value(0, 0), 0);
        c.due("6: value(0, 256)", x.value(0, 256), 1);
        c.due("6: value(0, 256) again", x.value(0, 256), 0);
        c.due("6: value(0, 1 << 40)", x.value(0, 1L << 40), 1);
        c.due("6: value(0, 0) at last", x.value(0, 0), 1);
        c.due("6: value(1, 0)", x.value(1, 0), RankWire.BEYOND);
        c.due("6: value(-1, 0)", x.value(-1, 0), RankWire.BEYOND);
    }

    private static void ranks() {
        RankWire x = Wires.withNodes(1);
        x.word(0, 1, 0, 100, 0);
        x.word(0, 2, 0, 100, 0);
        c.due("7: rank(0, LAST)", x.rank(0, LAST_RANK), 1);
        c.due("7: rank(1, 1), free now", x.rank(1, 1), 2);
        c.due("7: rank(1, 1), its own", x.rank(1, 1), 1);
        c.due("7: rank(1, LAST)", x.rank(1, LAST_RANK), RankWire.SAME);
        c.due("7: rank(1, LAST + 1)", x.rank(1, LAST_RANK + 1), RankWire.NO);
        c.due("7: rank(1, -1)", x.rank(1, -1), RankWire.NO);
        c.due("7: rank(2, -1)", x.rank(2, -1), RankWire.BEYOND);
        c.due("7: rank(-1, 5)", x.rank(-1, 5), RankWire.BEYOND);
        c.due("7: of(0, 1)", x.of(0, 1), LAST_RANK);
        c.due("7: of(1, 1)", x.of(1, 1), 1);
        c.due("7: rank(0, 0)", x.rank(0, 0), LAST_RANK);
    }

    private static void ofWords() {
        RankWire x = Wires.withNodes(3);
        x.word(0, 50, 27, 150, 9);
        x.word(2, 60, 18, 1500, 90);
        x.word(1, 70, 33, 300, 1);
        x.late(1, 33);
        x.due(1, 44);
        int[][] due = {
            {0, 50, 2, 7, 150, 9, 0, 150, 0, 0, 0, -1},
            {2, 60, 1, 8, 1500, 90, 33, 44, 0, 0, 0, -1},
            {1, 70, 3, 3, 300, 1, 0, 300, 0, 0, 0, -1}};
        for (int w = 0; w < 3; w++) {
            for (int what = 0; what < 12; what++) {
                c.due("8: of(" + w + ", " + what + ")", x.of(w, what), due[w][what]);
            }
        }
        c.due("8: of(0, 12)", x.of(0, 12), RankWire.NO);
        c.due("8: of(0, -1)", x.of(0, -1), RankWire.NO);
        c.due("8: of(3, 12)", x.of(3, 12), RankWire.BEYOND);
        c.due("8: of(-1, 0)", x.of(-1, 0), RankWire.BEYOND);
        c.due("8: status(NONE's neighbour)", x.status(RankWire.MISSING), 0);
        ofRunWords();
    }

    private static void ofRunWords() {
        RankWire x = Wires.withNodes(2);
        x.word(0, 10, 0, 100, 0);
        x.word(1, 20, 0, 100, 0);
        x.run(1);
        c.due("8: the first one doesn't wait", x.of(0, 8), 0);
        c.due("8: the other one waits", x.of(1, 8), 1);
        int size = x.size(0);
        x.run(size - 1);
        c.due("8: heard", x.of(0, 9), 1);
        c.due("8: greatest time", x.of(0, 11), size - 1);
        c.due("8: losses", x.of(0, 10), 0);
    }

    private static void aboutNodes() {
        RankWire x = Wires.withNodes(1);
        x.word(0, 0, 0, 100, 0);
        int fails = 0;
        int size = x.size(0);
        x.run(size - 8);
        for (int f = 1; f <= 32; f++) {
            fails++;
            c.due("9: about(0, 0)", x.about(0, 0), 8 * fails);
            c.due("9: about(0, 1)", x.about(0, 1), fails < 16 ? 0 : fails < 32 ? 1 : 2);
            c.due("9: about(0, 2)", x.about(0, 2), fails);
            x.run(18 + size - 9);
        }
        c.due("9: about(0, 3)", x.about(0, 3), RankWire.NO);
        c.due("9: about(0, -1)", x.about(0, -1), RankWire.NO);
        c.due("9: about(1, 3)", x.about(1, 3), RankWire.BEYOND);
        c.due("9: about(-1, 0)", x.about(-1, 0), RankWire.BEYOND);
    }
}
