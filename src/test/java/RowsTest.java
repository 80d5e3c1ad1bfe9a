/** Promises 35 to 39, sentence by sentence: the row, and the count of refusals. */
public final class RowsTest {
    public static void main(String[] args) {
        puts();
        putRefused();
        rowIsNoPartOfItsWord();
        tears();
        rows();
        rowRefused();
        copies();
        copiesOfNone();
        copyBelow();
        copyRefused();
        statuses();
        statusRefused();
        answersThatAreNoRefusals();
        Edge.end();
    }

    private static void rowIs(Edge e, RankWire x, int... due) {
        for (int i = 0; i < due.length; i++) {
            e.due("row(" + i + ")", x.row(i), due[i]);
        }
        e.due("row(" + due.length + ")", x.row(due.length), RankWire.BEYOND);
    }

    private static void puts() {
        Edge e = Edge.of(35, "THE ROW becomes the BYTES of a WORD: how many.");
        RankWire x = Wires.withWord(5, 8, 0x0180FF7F00102030L);
        e.due("of 8", x.put(0), 8);
        rowIs(e, x, 1, -128, -1, 127, 0, 16, 32, 48);
        x.word(0, 6, 2, 100, 0);
        x.value(1, 0x998877L);
        e.due("of 2, its lowest", x.put(1), 2);
        rowIs(e, x, -120, 119);
        x.word(0, 7, 0, 100, 0);
        x.value(2, -1);
        e.due("of 0", x.put(2), 0);
        rowIs(e, x);
        e.due("it is there all the same", x.tear(), 1);
    }

    private static void putRefused() {
        Edge e = Edge.of(35, "how many. BEYOND.");
        RankWire x = Wires.withWord(5, 1, 3);
        int[] none = {1, -1, Integer.MIN_VALUE, Integer.MAX_VALUE};
        for (int word : none) {
            e.due("put(" + word + ")", x.put(word), RankWire.BEYOND);
        }
        e.due("it is missing as before", x.tear(), 0);
        x.put(0);
        x.put(1);
        rowIs(e, x, 3);
    }

    private static void rowIsNoPartOfItsWord() {
        Edge e = Edge.of(35, "THE ROW becomes the BYTES of a WORD");
        RankWire x = Wires.withWord(5, 2, 0x0102);
        int sum = x.sum(0);
        x.put(0);
        x.value(0, 0);
        rowIs(e, x, 1, 2);
        x.value(0, 0x0102);
        x.copy(0, 1, 1);
        rowIs(e, x, 1, 1);
        e.due("the WORD is as it was", x.sum(0), sum);
    }

    private static void tears() {
        Edge e = Edge.of(36, "THE ROW is missing: 1 if it was there, else 0 (at first it is missing).");
        RankWire x = Wires.withWord(5, 1, 5);
        e.due("at first", x.tear(), 0);
        x.put(0);
        e.due("it was there", x.tear(), 1);
        e.due("it was not", x.tear(), 0);
        e.due("row(0)", x.row(0), RankWire.MISSING);
        x.put(0);
        e.due("there again", x.row(0), 5);
    }

    private static void rows() {
        Edge e = Edge.of(37, "Number i of THE ROW (-128 .. 127).");
        int[][] due = {{0, 0}, {1, 1}, {127, 127}, {128, -128}, {129, -127}, {255, -1}, {256, 0}, {-1, -1}};
        for (int[] one : due) {
            RankWire x = Wires.withWord(5, 1, one[0]);
            x.put(0);
            e.due("of " + one[0], x.row(0), one[1]);
        }
        // numbers that look like refusals are none
        RankWire y = Wires.withWord(5, 8, 0xFEFDFCFBFAF9F8F7L);
        y.put(0);
        for (int i = 0; i < 8; i++) {
            e.due("row(" + i + ")", y.row(i), -2 - i);
            e.due("that is no refusal", y.status(-2 - i), 0);
        }
    }

    private static void rowRefused() {
        Edge e = Edge.of(37, "MISSING, BEYOND.");
        RankWire x = Wires.withWord(5, 3, 5);
        int[] none = {3, -1, 7, 8, Integer.MIN_VALUE, Integer.MAX_VALUE};
        e.due("MISSING", x.row(0), RankWire.MISSING);
        for (int i : none) {
            e.due("MISSING ahead of BEYOND, row(" + i + ")", x.row(i), RankWire.MISSING);
        }
        x.put(0);
        e.due("the last one", x.row(2), 5);
        for (int i : none) {
            e.due("row(" + i + ")", x.row(i), RankWire.BEYOND);
        }
    }

    private static void copies() {
        Edge e = Edge.of(38, "n numbers of THE ROW, from place i on, come to its place j on (as they were): n.");
        RankWire x = Wires.withWord(5, 5, 0x0102030405L);
        x.put(0);
        e.due("to the right, over itself", x.copy(0, 1, 4), 4);
        rowIs(e, x, 1, 1, 2, 3, 4);
        x.put(0);
        e.due("to the left, over itself", x.copy(1, 0, 4), 4);
        rowIs(e, x, 2, 3, 4, 5, 5);
        x.put(0);
        e.due("the first to the last", x.copy(0, 4, 1), 1);
        rowIs(e, x, 1, 2, 3, 4, 1);
        e.due("the whole", x.copy(0, 0, 5), 5);
        rowIs(e, x, 1, 2, 3, 4, 1);
        RankWire y = Wires.withWord(5, 8, 0x0102030405060708L);
        y.put(0);
        e.due("half of 8", y.copy(0, 4, 4), 4);
        rowIs(e, y, 1, 2, 3, 4, 1, 2, 3, 4);
    }

    private static void copiesOfNone() {
        Edge e = Edge.of(38, "i + n or j + n above how many there are");
        for (int n = 0; n <= 8; n += 4) {
            RankWire x = Wires.withWord(5, n, 7);
            x.put(0);
            e.due("none, from behind to behind", x.copy(n, n, 0), 0);
            e.due("none, from behind that", x.copy(n + 1, 0, 0), RankWire.COPY);
            e.due("none, to behind that", x.copy(0, n + 1, 0), RankWire.COPY);
            e.due("one from behind", x.copy(n, 0, 1), RankWire.COPY);
            e.due("one to behind", x.copy(0, n, 1), RankWire.COPY);
            e.due("all", x.copy(0, 0, n), n);
            e.due("one more than all", x.copy(0, 0, n + 1), RankWire.COPY);
        }
    }

    private static void copyBelow() {
        Edge e = Edge.of(38, "COPY: i or j below 0");
        RankWire x = Wires.withWord(5, 5, 0x0102030405L);
        x.put(0);
        int[] below = {-1, -5, Integer.MIN_VALUE};
        for (int at : below) {
            e.due("i " + at, x.copy(at, 0, 1), RankWire.COPY);
            e.due("j " + at, x.copy(0, at, 1), RankWire.COPY);
            e.due("i " + at + ", none", x.copy(at, 0, 0), RankWire.COPY);
            e.due("j " + at + ", none", x.copy(0, at, 0), RankWire.COPY);
        }
        // i + n wraps around
        e.due("i and n far above", x.copy(Integer.MAX_VALUE, 0, Integer.MAX_VALUE), RankWire.COPY);
        e.due("j and n far above", x.copy(0, Integer.MAX_VALUE, Integer.MAX_VALUE), RankWire.COPY);
        e.due("i + n wraps around to 0", x.copy(1, 0, Integer.MAX_VALUE), RankWire.COPY);
        e.due("i far below", x.copy(Integer.MIN_VALUE, 0, Integer.MAX_VALUE), RankWire.COPY);
        rowIs(e, x, 1, 2, 3, 4, 5);
    }

    private static void copyRefused() {
        Edge e = Edge.of(38, "MISSING, BELOW: n; COPY");
        RankWire x = Wires.withWord(5, 5, 0x0102030405L);
        e.due("MISSING", x.copy(0, 0, 0), RankWire.MISSING);
        e.due("MISSING ahead of BELOW", x.copy(0, 0, -1), RankWire.MISSING);
        e.due("MISSING ahead of COPY", x.copy(-1, 9, 1), RankWire.MISSING);
        x.put(0);
        e.due("BELOW", x.copy(0, 0, -1), RankWire.BELOW);
        e.due("far below", x.copy(0, 0, Integer.MIN_VALUE), RankWire.BELOW);
        e.due("BELOW ahead of COPY", x.copy(-1, 9, -1), RankWire.BELOW);
        rowIs(e, x, 1, 2, 3, 4, 5);
    }

    private static void statuses() {
        Edge e = Edge.of(39, "How many calls were refused by an answer -2 .. -9.");
        RankWire x = Wires.withWord(5, 0, 0);
        x.told(0);
        x.size(9);
        x.size(9);
        x.run(-1);
        x.run(-1);
        x.run(-1);
        x.come(0);
        x.put(0);
        x.copy(0, 0, 1);
        x.copy(0, 1, 0);
        for (int i = 0; i < 11; i++) {
            x.node();
        }
        x.word(0, 5, 0, 100, 0);
        int[] due = {0, 0, 1, 2, 3, 1, 2, 0, 2, 1};
        for (int by = 2; by < 10; by++) {
            e.due("status(-" + by + ")", x.status(-by), due[by]);
            e.due("status(-" + by + ") again", x.status(-by), due[by]);
        }
    }

    private static void statusRefused() {
        Edge e = Edge.of(39, "NO: another number.");
        RankWire x = new RankWire();
        int[] others = {-1, 0, 1, 2, 9, -10, Integer.MIN_VALUE, Integer.MAX_VALUE};
        for (int i = 0; i < others.length; i++) {
            e.due("status(" + others[i] + ")", x.status(others[i]), RankWire.NO);
            e.due("that is refused, too", x.status(RankWire.NO), i + 1);
        }
        for (int by = RankWire.SAME; by <= RankWire.MISSING; by++) {
            e.due("status(" + by + ")", x.status(by), by == RankWire.NO ? others.length : 0);
        }
    }

    private static void answersThatAreNoRefusals() {
        Edge e = Edge.of(39, "refused by an answer");
        RankWire x = Wires.withWord(5, 8, -2);
        x.lay(0);
        x.read(0);
        e.due("bytes()", x.bytes(), -2);
        e.due("bit(0, 999)", x.bit(0, 999), RankWire.NONE);
        e.due("of(0, 11)", x.of(0, 11), RankWire.NONE);
        e.due("count(3)", x.count(3), RankWire.NONE);
        for (int by = RankWire.SAME; by <= RankWire.MISSING; by++) {
            e.due("status(" + by + ")", x.status(by), 0);
        }
    }
}
