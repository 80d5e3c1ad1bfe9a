/** Promises 1 to 9, sentence by sentence: a new object, nodes and words. */
public final class NodesAndWordsTest {
    private static final int LAST_RANK = Wires.LAST_RANK;
    private static final int[] FAR = {Integer.MIN_VALUE, Integer.MAX_VALUE};

    public static void main(String[] args) {
        newObject();
        newObjectHasRunNothing();
        nodes();
        wordNumbers();
        wordOfANode();
        askedWordOfALesserOne();
        kindsAndBytes();
        ranksOfWords();
        timesOfWords();
        firstsOfWords();
        firstOfAnAskedOne();
        refusalsOfWordInTheirOrder();
        sameRank();
        whatAWordIsAtFirst();
        lates();
        dues();
        values();
        ranks();
        ownRank();
        ofWords();
        ofHeardWords();
        countsAtFirst();
        activeAndQuiet();
        quietAndOff();
        aboutNodes();
        Edge.end();
    }

    private static void newObject() {
        Edge e = Edge.of(1, "No NODES, WORDS; THE TAPE is empty.");
        RankWire x = new RankWire();
        e.due("nodes", x.count(5), 0);
        e.due("words", x.count(6), 0);
        e.due("about(0, 0)", x.about(0, 0), RankWire.BEYOND);
        e.due("of(0, 0)", x.of(0, 0), RankWire.BEYOND);
        e.due("feed(0, 0)", x.feed(0, 0), 0);
        e.due("bend(0)", x.bend(0), RankWire.BEYOND);
        e.due("wipe()", x.wipe(), 0);
    }

    private static void newObjectHasRunNothing() {
        Edge e = Edge.of(1, "No NODES, WORDS");
        RankWire x = new RankWire();
        int[] counts = {0, 0, 0, RankWire.NONE, 0, 0, 0, 0};
        for (int i = 0; i < counts.length; i++) {
            e.due("count(" + i + ")", x.count(i), counts[i]);
        }
        for (int by = RankWire.SAME; by <= RankWire.MISSING; by++) {
            e.due("status(" + by + ")", x.status(by), 0);
        }
        e.due("log(0, 0)", x.log(0, 0), RankWire.BEYOND);
        e.due("bytes()", x.bytes(), 0);
        e.due("misses()", x.misses(), 0);
        e.due("load()", x.load(), 0);
    }

    private static void nodes() {
        Edge e = Edge.of(2, "NODES 0 .. 9 as they come");
        RankWire x = new RankWire();
        for (int i = 0; i < 10; i++) {
            e.due("about(" + i + ", 0), not yet there", x.about(i, 0), RankWire.BEYOND);
            e.due("node()", x.node(), i);
            e.due("about(" + i + ", 0)", x.about(i, 0), 0);
        }
        Edge full = Edge.of(2, "A NODE: its number. FULL.");
        full.due("the 11th", x.node(), RankWire.FULL);
        full.due("the 12th", x.node(), RankWire.FULL);
        full.due("how many there are", x.count(5), 10);
        full.due("about(10, 0)", x.about(10, 0), RankWire.BEYOND);
        full.due("status(FULL)", x.status(RankWire.FULL), 2);
    }

    private static void wordNumbers() {
        Edge e = Edge.of(3, "WORDS 0 .. 23 as they come");
        RankWire x = Wires.withNodes(1);
        for (int i = 0; i < 24; i++) {
            e.due("of(" + i + ", 0), not yet there", x.of(i, 0), RankWire.BEYOND);
            e.due("word()", x.word(0, 100 + i, 0, 100, 0), i);
            e.due("of(" + i + ", 1)", x.of(i, 1), 100 + i);
        }
        Edge full = Edge.of(3, "SAME; FULL.");
        full.due("the 25th", x.word(0, 50, 0, 100, 0), RankWire.FULL);
        full.due("the 25th, ASKED by the last", x.word(0, 50, 30, 100, 23), RankWire.FULL);
        full.due("how many there are", x.count(6), 24);
        full.due("of(24, 0)", x.of(24, 0), RankWire.BEYOND);
    }

    private static void wordOfANode() {
        Edge e = Edge.of(3, "A WORD of a NODE: its number.");
        RankWire x = Wires.withNodes(10);
        e.due("of the first node", x.word(0, 1, 0, 100, 0), 0);
        e.due("of the last node", x.word(9, 2, 0, 100, 0), 1);
        e.due("its node", x.of(0, 0), 0);
        e.due("its node", x.of(1, 0), 9);
        Edge beyond = Edge.of(3, "BEYOND (NODE;");
        beyond.due("node 10", x.word(10, 3, 0, 100, 0), RankWire.BEYOND);
        beyond.due("node -1", x.word(-1, 3, 0, 100, 0), RankWire.BEYOND);
        for (int far : FAR) {
            beyond.due("node " + far, x.word(far, 3, 0, 100, 0), RankWire.BEYOND);
        }
        beyond.due("without nodes", new RankWire().word(0, 3, 0, 100, 0), RankWire.BEYOND);
        beyond.due("words", x.count(6), 2);
    }

    private static void askedWordOfALesserOne() {
        Edge e = Edge.of(3, "of ASKED ones FIRST: no lesser WORD");
        RankWire x = Wires.withNodes(1);
        e.due("without words", x.word(0, 1, 30, 100, 0), RankWire.BEYOND);
        x.word(0, 1, 0, 100, 0);
        e.due("of itself", x.word(0, 2, 30, 100, 1), RankWire.BEYOND);
        e.due("of -1", x.word(0, 2, 30, 100, -1), RankWire.BEYOND);
        for (int far : FAR) {
            e.due("of " + far, x.word(0, 2, 38, 100, far), RankWire.BEYOND);
        }
        e.due("of the first", x.word(0, 2, 30, 100, 0), 1);
        e.due("of the one before", x.word(0, 3, 38, 100, 1), 2);
        e.due("its FIRST", x.of(2, 5), 1);
        e.due("of itself, as it would be", x.word(0, 4, 30, 100, 3), RankWire.BEYOND);
    }

    private static void kindsAndBytes() {
        Edge e = Edge.of(3, "KIND and n told as 10 * KIND + n");
        RankWire x = Wires.withNodes(1);
        for (int i = 0; i < 8; i++) {
            int kind = i / 2;
            int n = i % 2 * 8;
            e.due("KIND " + kind + ", n " + n, x.word(0, i, 10 * kind + n, 100, 0), i);
            e.due("its KIND", x.of(i, 2), kind);
            e.due("its n", x.of(i, 3), n);
        }
        Edge bytes = Edge.of(3, "4 bits n, how many BYTES (0 .. 8)");
        int[] nine = {9, 19, 29, 39};
        for (int told : nine) {
            bytes.due("told as " + told, x.word(0, 50, told, 100, 0), RankWire.NO);
        }
        Edge kinds = Edge.of(3, "KINDS: 0 TIMED");
        int[] others = {-1, -2, -8, -9, -10, -100, 40, 48, 49, 400, Integer.MIN_VALUE, Integer.MAX_VALUE};
        for (int told : others) {
            kinds.due("told as " + told, x.word(0, 50, told, 100, 0), RankWire.NO);
            kinds.due("told as " + told + ", FIRST no word", x.word(0, 50, told, 100, 99), RankWire.NO);
        }
    }

    private static void ranksOfWords() {
        Edge e = Edge.of(3, "A RANK is 0 .. 2047 (SHORT), or 2048 and more, 2048 + a number below 2^29 (LONG)");
        RankWire x = Wires.withNodes(1);
        int[] ranks = {0, 2047, 2048, LAST_RANK};
        for (int i = 0; i < ranks.length; i++) {
            e.due("RANK " + ranks[i], x.word(0, ranks[i], 0, 100, 0), i);
            e.due("its RANK", x.of(i, 1), ranks[i]);
            // a LONG one has 18 PLAIN BITS more
            e.due("its PLAIN BITS", x.size(i) - x.stuffed(i) - 10, ranks[i] < 2048 ? 32 : 50);
        }
        int[] others = {-1, LAST_RANK + 1, Integer.MIN_VALUE, Integer.MAX_VALUE};
        for (int rank : others) {
            e.due("RANK " + rank, x.word(0, rank, 0, 100, 0), RankWire.NO);
        }
    }

    private static void timesOfWords() {
        Edge e = Edge.of(3, "T (100 .. 100000)");
        for (int kind = 0; kind < 40; kind += 10) {
            RankWire x = Wires.withNodes(1);
            x.word(0, 1, 0, 500, 0);
            int[] others = {99, 100001, 0, -1, -100, Integer.MIN_VALUE, Integer.MAX_VALUE};
            for (int t : others) {
                e.due("T " + t + " of " + kind, x.word(0, 5, kind, t, 0), RankWire.NO);
            }
            e.due("T 100 of " + kind, x.word(0, 5, kind, 100, 0), 1);
            e.due("T 100000 of " + kind, x.word(0, 6, kind, 100000, 0), 2);
            e.due("its T", x.of(1, 4), 100);
            e.due("its T", x.of(2, 4), 100000);
        }
    }

    private static void firstsOfWords() {
        Edge e = Edge.of(3, "FIRST (0 .. 100000)");
        for (int kind = 0; kind < 30; kind += 10) {
            RankWire x = Wires.withNodes(1);
            int[] others = {-1, 100001, Integer.MIN_VALUE, Integer.MAX_VALUE};
            for (int first : others) {
                e.due("FIRST " + first + " of " + kind, x.word(0, 5, kind, 100, first), RankWire.NO);
            }
            e.due("FIRST 0 of " + kind, x.word(0, 5, kind, 100, 0), 0);
            e.due("FIRST 100000 of " + kind, x.word(0, 6, kind, 100, 100000), 1);
            e.due("its FIRST", x.of(0, 5), 0);
            e.due("its FIRST", x.of(1, 5), 100000);
        }
    }

    private static void firstOfAnAskedOne() {
        Edge e = Edge.of(3, "3 ASKED: as an answer to a WORD (told as its FIRST; a lesser one)");
        RankWire x = Wires.withNodes(1);
        for (int kind = 0; kind < 4; kind++) {
            e.due("a word", x.word(0, 2 * kind, 10 * kind, 100, 0), 2 * kind);
            e.due("an answer to KIND " + kind, x.word(0, 2 * kind + 1, 30, 100, 2 * kind), 2 * kind + 1);
            e.due("its FIRST", x.of(2 * kind + 1, 5), 2 * kind);
        }
        // FIRST 100000 is right for the others, and no word
        e.due("an answer to 100000", x.word(0, 50, 30, 100, 100000), RankWire.BEYOND);
    }

    private static void refusalsOfWordInTheirOrder() {
        Edge e = Edge.of(3, "of ASKED ones FIRST: no lesser WORD), NO: KIND, n, RANK, T, FIRST; SAME; FULL.");
        RankWire x = Wires.withNodes(1);
        x.word(0, 7, 0, 100, 0);
        e.due("BEYOND ahead of NO: KIND", x.word(1, 5, 99, 100, 0), RankWire.BEYOND);
        e.due("BEYOND ahead of NO: RANK, T, FIRST", x.word(1, -1, 0, 1, -1), RankWire.BEYOND);
        e.due("BEYOND ahead of SAME", x.word(1, 7, 0, 100, 0), RankWire.BEYOND);
        e.due("FIRST of an ASKED one ahead of n", x.word(0, 5, 39, 100, 1), RankWire.BEYOND);
        e.due("FIRST of an ASKED one ahead of RANK and T", x.word(0, -1, 30, 1, 1), RankWire.BEYOND);
        e.due("FIRST of an ASKED one ahead of SAME", x.word(0, 7, 30, 100, 1), RankWire.BEYOND);
        e.due("KIND ahead of SAME", x.word(0, 7, 40, 100, 0), RankWire.NO);
        e.due("n ahead of SAME", x.word(0, 7, 9, 100, 0), RankWire.NO);
        e.due("T ahead of SAME", x.word(0, 7, 0, 99, 0), RankWire.NO);
        e.due("FIRST ahead of SAME", x.word(0, 7, 0, 100, -1), RankWire.NO);
        for (int i = 1; i < 24; i++) {
            x.word(0, 7 + i, 0, 100, 0);
        }
        e.due("BEYOND ahead of FULL", x.word(1, 5, 0, 100, 0), RankWire.BEYOND);
        e.due("FIRST of an ASKED one ahead of FULL", x.word(0, 5, 30, 100, 24), RankWire.BEYOND);
        e.due("NO ahead of FULL", x.word(0, 5, 9, 100, 0), RankWire.NO);
        e.due("SAME ahead of FULL", x.word(0, 7, 0, 100, 0), RankWire.SAME);
    }

    private static void sameRank() {
        Edge e = Edge.of(3, "with a RANK that no other one has");
        RankWire x = Wires.withNodes(2);
        x.word(0, 5, 0, 100, 0);
        e.due("the same one", x.word(0, 5, 0, 100, 0), RankWire.SAME);
        e.due("of another node and kind", x.word(1, 5, 28, 200, 9), RankWire.SAME);
        e.due("words", x.count(6), 1);
        e.due("the LONG one of the same number", x.word(0, 2048 + 5, 0, 100, 0), 1);
        e.due("the LONG one of the same number again", x.word(0, 2048 + 5, 0, 100, 0), RankWire.SAME);
        x.rank(0, 6);
        e.due("one that is free now", x.word(0, 5, 0, 100, 0), 2);
        e.due("one that was given", x.word(0, 6, 0, 100, 0), RankWire.SAME);
    }

    private static void whatAWordIsAtFirst() {
        Edge e = Edge.of(3, "LATE (0 .. 1000), DUE (T at first)");
        int[] ts = {100, 4321, 100000};
        for (int t : ts) {
            RankWire x = Wires.withNodes(1);
            x.word(0, 5, 18, t, 0);
            e.due("LATE", x.of(0, 6), 0);
            e.due("DUE", x.of(0, 7), t);
            e.due("VALUE is 0", x.value(0, 0), 0);
        }
    }

    private static void lates() {
        Edge e = Edge.of(4, "LATE (0 .. 1000)");
        RankWire x = Wires.withNodes(1);
        for (int kind = 0; kind < 4; kind++) {
            x.word(0, kind, 10 * kind, 100, 0);
        }
        e.due("late(1, 1000)", x.late(1, 1000), 0);
        int[] others = {1001, -1, Integer.MIN_VALUE, Integer.MAX_VALUE};
        for (int late : others) {
            e.due("late(1, " + late + ")", x.late(1, late), RankWire.NO);
        }
        e.due("late(1, 0)", x.late(1, 0), 1000);
        Edge before = Edge.of(4, "LATE of a SHAKEN WORD: the one before.");
        before.due("late(1, 5)", x.late(1, 5), 0);
        before.due("late(1, 5) again", x.late(1, 5), 5);
        before.due("of(1, 6)", x.of(1, 6), 5);
        Edge refused = Edge.of(4, "BEYOND, KIND, NO.");
        int[] otherKinds = {0, 2, 3};
        for (int word : otherKinds) {
            refused.due("of KIND " + word, x.late(word, 5), RankWire.KIND);
            refused.due("0 of KIND " + word, x.late(word, 0), RankWire.KIND);
            refused.due("KIND ahead of NO", x.late(word, -1), RankWire.KIND);
            refused.due("its LATE", x.of(word, 6), 0);
        }
        int[] none = {4, -1, Integer.MIN_VALUE, Integer.MAX_VALUE};
        for (int word : none) {
            refused.due("late(" + word + ", 0)", x.late(word, 0), RankWire.BEYOND);
            refused.due("BEYOND ahead of NO", x.late(word, 1001), RankWire.BEYOND);
        }
    }

    private static void dues() {
        Edge e = Edge.of(5, "DUE of a WORD (1 .. 1000000): the one before.");
        RankWire x = Wires.withNodes(1);
        x.word(0, 1, 0, 777, 0);
        e.due("due(0, 1)", x.due(0, 1), 777);
        e.due("due(0, 1000000)", x.due(0, 1000000), 1);
        e.due("of(0, 7)", x.of(0, 7), 1000000);
        Edge refused = Edge.of(5, "BEYOND, NO.");
        int[] others = {0, 1000001, -1, Integer.MIN_VALUE, Integer.MAX_VALUE};
        for (int due : others) {
            refused.due("due(0, " + due + ")", x.due(0, due), RankWire.NO);
            refused.due("BEYOND ahead of NO", x.due(1, due), RankWire.BEYOND);
        }
        refused.due("due(1, 1)", x.due(1, 1), RankWire.BEYOND);
        refused.due("due(-1, 1)", x.due(-1, 1), RankWire.BEYOND);
        refused.due("due(0, 3)", x.due(0, 3), 1000000);
    }

    private static void values() {
        Edge e = Edge.of(6, "1 if the long is another one than before, else 0. BEYOND.");
        for (int n = 0; n <= 8; n += 4) {
            RankWire x = Wires.withNodes(1);
            x.word(0, 1, n, 100, 0);
            e.due("0 at first", x.value(0, 0), 0);
            // above its BYTES, the long is another one all the same
            long[] others = {1L << 8 * n % 64, 1L << 63, Long.MAX_VALUE, -1, 1L << 32, 0};
            for (long v : others) {
                e.due("value(0, " + v + ")", x.value(0, v), 1);
                e.due("value(0, " + v + ") again", x.value(0, v), 0);
            }
            int[] none = {1, -1, Integer.MIN_VALUE, Integer.MAX_VALUE};
            for (int word : none) {
                e.due("value(" + word + ", 0)", x.value(word, 0), RankWire.BEYOND);
            }
        }
    }

    private static void ranks() {
        Edge e = Edge.of(7, "RANK of a WORD becomes another one");
        RankWire x = Wires.withNodes(1);
        x.word(0, 1, 0, 100, 0);
        x.word(0, 2, 0, 100, 0);
        int[] ranks = {0, 2047, 2048, LAST_RANK};
        int before = 1;
        for (int rank : ranks) {
            e.due("rank(0, " + rank + ")", x.rank(0, rank), before);
            e.due("of(0, 1)", x.of(0, 1), rank);
            before = rank;
        }
        e.due("one that is free now", x.rank(1, 1), 2);
        Edge refused = Edge.of(7, "BEYOND, NO, SAME.");
        refused.due("of another", x.rank(1, LAST_RANK), RankWire.SAME);
        int[] others = {-1, LAST_RANK + 1, Integer.MIN_VALUE, Integer.MAX_VALUE};
        for (int rank : others) {
            refused.due("rank(1, " + rank + ")", x.rank(1, rank), RankWire.NO);
            refused.due("BEYOND ahead of NO", x.rank(2, rank), RankWire.BEYOND);
        }
        refused.due("BEYOND ahead of SAME", x.rank(2, 1), RankWire.BEYOND);
        refused.due("rank(-1, 5)", x.rank(-1, 5), RankWire.BEYOND);
        refused.due("of(1, 1)", x.of(1, 1), 1);
    }

    private static void ownRank() {
        Edge e = Edge.of(7, "(its own: nothing changes): the one before.");
        RankWire x = Wires.withNodes(1);
        x.word(0, 5, 0, 1000, 0);
        x.order();
        e.due("rank(0, 5)", x.rank(0, 5), 5);
        e.due("that is not refused", x.status(RankWire.SAME), 0);
        e.due("of(0, 1)", x.of(0, 1), 5);
        e.due("THE ORDER stands", x.place(0), 0);
    }

    private static void ofWords() {
        Edge e = Edge.of(8, "its NODE (what = 0), RANK (1), KIND (2), n (3), T (4), FIRST (5), LATE (6), DUE (7)");
        RankWire x = Wires.withNodes(3);
        x.word(0, 50, 27, 150, 9);
        x.word(2, 60, 18, 1500, 90);
        x.word(1, 70, 33, 300, 1);
        x.late(1, 33);
        x.due(1, 44);
        int[][] due = {
            {0, 50, 2, 7, 150, 9, 0, 150, 0, 0, 0, -1},
            {2, 60, 1, 8, 1500, 90, 33, 44, 0, 0, 0, -1},
            {1, 70, 3, 3, 300, 1, 0, 300, 0, 0, 0, -1}};
        for (int w = 0; w < 3; w++) {
            for (int what = 0; what < 12; what++) {
                e.due("of(" + w + ", " + what + ")", x.of(w, what), due[w][what]);
            }
        }
        Edge refused = Edge.of(8, "BEYOND, NO.");
        int[] others = {12, -1, Integer.MIN_VALUE, Integer.MAX_VALUE};
        for (int what : others) {
            refused.due("of(0, " + what + ")", x.of(0, what), RankWire.NO);
            refused.due("BEYOND ahead of NO", x.of(3, what), RankWire.BEYOND);
        }
        int[] none = {3, -1, Integer.MIN_VALUE, Integer.MAX_VALUE};
        for (int word : none) {
            refused.due("of(" + word + ", 0)", x.of(word, 0), RankWire.BEYOND);
        }
    }

    private static void ofHeardWords() {
        Edge e = Edge.of(8, "whether it WAITS (8), how often it was HEARD (9), LOSSES (10), the greatest TIME (11");
        RankWire x = Wires.withWordOf0(0, 200, 0);
        x.word(1, 1, 0, 200, 0);
        x.run(1);
        e.due("the one under way WAITS", x.of(0, 8), 0);
        e.due("the other WAITS", x.of(1, 8), 1);
        Edge none = Edge.of(8, "NONE: it wasn't HEARD");
        x.run(Wires.LAST_OF_0 - 1);
        none.due("ahead of its last tick", x.of(0, 11), RankWire.NONE);
        none.due("that is not refused", x.status(RankWire.NO), 0);
        x.run(1);
        none.due("behind its last tick", x.of(0, 11), Wires.LAST_OF_0);
        e.due("HEARD", x.of(0, 9), 1);
        e.due("LOSSES", x.of(0, 10), 0);
        // a longer one first, then a shorter one
        RankWire y = Wires.withWordOf0(2, 100, 0);
        y.come(0);
        y.disturb(0);
        y.run(100);
        y.come(0);
        y.run(100);
        e.due("HEARD twice", y.of(0, 9), 2);
        e.due("the greatest, not the latest", y.of(0, 11), 18 + Wires.LAST_OF_0);
        e.due("the latest", y.log(0, 3), Wires.LAST_OF_0);
    }

    private static void countsAtFirst() {
        Edge e = Edge.of(9, "each with a COUNT (0 at first)");
        RankWire x = Wires.withWordOf0(0, 1000, 0);
        e.due("COUNT", x.about(0, 0), 0);
        x.disturb(0);
        x.run(1);
        e.due("a node that was there", x.about(1, 0), 1);
        x.node();
        e.due("one that was told then", x.about(2, 0), 0);
    }

    private static void activeAndQuiet() {
        Edge e = Edge.of(9, "ACTIVE below 128, QUIET below 256, else OFF.");
        RankWire x = Wires.withWordOf0(2, 100, 0);
        e.due("ACTIVE at 0", x.about(0, 1), 0);
        x.come(0);
        for (int i = 0; i < 16; i++) {
            x.disturb(18 * i);
        }
        x.run(18 * 15 + 1);
        e.due("COUNT", x.about(0, 0), 128);
        e.due("QUIET at 128", x.about(0, 1), 1);
        x.run(100);
        e.due("COUNT", x.about(0, 0), 127);
        e.due("ACTIVE at 127", x.about(0, 1), 0);
    }

    /** Node 0 has 31 frames that FAILED, then node 1 those that bring the COUNT of node 0 to 255. */
    private static RankWire at255() {
        RankWire x = Wires.withNodes(2);
        x.word(0, 5, 20, 100, 0);
        x.word(1, 4, 20, 100, 0);
        for (int i = 0; i < 39; i++) {
            x.disturb(18 * i);
        }
        x.come(0);
        x.run(18 * 30 + 1);
        x.come(1);
        x.run(18 * 7);
        return x;
    }

    private static void quietAndOff() {
        Edge e = Edge.of(9, "QUIET below 256, else OFF.");
        RankWire x = at255();
        e.due("COUNT", x.about(0, 0), 255);
        e.due("QUIET at 255", x.about(0, 1), 1);
        x.run(18);
        e.due("COUNT, by 1 more", x.about(0, 0), 256);
        e.due("OFF at 256", x.about(0, 1), 2);
        e.due("of the other", x.about(1, 0), 31 + 64);
        RankWire y = at255();
        y.rank(1, 6);
        y.run(18);
        e.due("COUNT, by 8 more", y.about(0, 0), 263);
        e.due("OFF at 263", y.about(0, 1), 2);
        e.due("of the other", y.about(1, 0), 32 + 56);
    }

    private static void aboutNodes() {
        Edge e = Edge.of(9, "how many FRAMES of it FAILED (2). BEYOND, NO.");
        RankWire x = at255();
        e.due("FAILED of node 0", x.about(0, 2), 31);
        e.due("FAILED of node 1", x.about(1, 2), 7);
        int[] others = {3, -1, Integer.MIN_VALUE, Integer.MAX_VALUE};
        for (int what : others) {
            e.due("about(0, " + what + ")", x.about(0, what), RankWire.NO);
            e.due("BEYOND ahead of NO", x.about(2, what), RankWire.BEYOND);
        }
        int[] none = {2, -1, Integer.MIN_VALUE, Integer.MAX_VALUE};
        for (int node : none) {
            e.due("about(" + node + ", 0)", x.about(node, 0), RankWire.BEYOND);
        }
        Edge counts = Edge.of(9, "COUNT (what = 0), 0 ACTIVE, 1 QUIET, 2 OFF (1)");
        RankWire y = Wires.withNodes(1);
        y.word(0, 0, 0, 100, 0);
        for (int f = 1; f <= 32; f++) {
            Wires.runTo(y, (f - 1) * (Wires.NINTH_OF_0 + 18) + Wires.NINTH_OF_0 + 1);
            counts.due("COUNT", y.about(0, 0), 8 * f);
            counts.due("what it is", y.about(0, 1), f < 16 ? 0 : f < 32 ? 1 : 2);
            counts.due("FAILED", y.about(0, 2), f);
        }
    }
}
