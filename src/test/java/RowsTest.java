/** Promises 35 to 39: the row, and the count of refusals. */
public final class RowsTest {
    private static final Check c = new Check();

    public static void main(String[] args) {
        puts();
        rows();
        copies();
        statuses();
        refusedCallsChangeNothing();
        c.end();
    }

    private static void rowIs(RankWire x, String when, int... due) {
        for (int i = 0; i < due.length; i++) {
            c.due(when + ": row(" + i + ")", x.row(i), due[i]);
        }
        c.due(when + ": row behind", x.row(due.length), RankWire.BEYOND);
    }

    private static void puts() {
        RankWire x = Wires.withWord(5, 8, 0x0180FF7F00102030L);
        c.due("35: put(0)", x.put(0), 8);
        rowIs(x, "35", 1, -128, -1, 127, 0, 16, 32, 48);
        x.value(0, 0);
        rowIs(x, "35, it is no part of the word", 1, -128, -1, 127, 0, 16, 32, 48);
        x.word(0, 6, 2, 100, 0);
        x.value(1, 0x998877L);
        c.due("35: put(1)", x.put(1), 2);
        rowIs(x, "35", -120, 119);
        c.due("35: put(2)", x.put(2), RankWire.BEYOND);
        c.due("35: put(-1)", x.put(-1), RankWire.BEYOND);
        rowIs(x, "35, as it was", -120, 119);
        x.word(0, 7, 0, 100, 0);
        c.due("35: put(2) of 0 bytes", x.put(2), 0);
        rowIs(x, "35, of 0 bytes");
    }

    private static void rows() {
        RankWire x = Wires.withWord(5, 1, 5);
        c.due("36: tear() at first", x.tear(), 0);
        c.due("37: row(0), missing", x.row(0), RankWire.MISSING);
        c.due("37: MISSING ahead of BEYOND", x.row(-1), RankWire.MISSING);
        x.put(0);
        c.due("37: row(0)", x.row(0), 5);
        c.due("37: row(-1)", x.row(-1), RankWire.BEYOND);
        c.due("37: row(1)", x.row(1), RankWire.BEYOND);
        c.due("37: row(MIN)", x.row(Integer.MIN_VALUE), RankWire.BEYOND);
        c.due("37: row(MAX)", x.row(Integer.MAX_VALUE), RankWire.BEYOND);
        c.due("36: tear()", x.tear(), 1);
        c.due("36: tear() again", x.tear(), 0);
        c.due("37: row(0), torn", x.row(0), RankWire.MISSING);
    }

    private static void copies() {
        RankWire x = Wires.withWord(5, 5, 0x0102030405L);
        c.due("38: MISSING ahead of BELOW", x.copy(0, 0, -1), RankWire.MISSING);
        x.put(0);
        c.due("38: to the right, over itself", x.copy(0, 1, 4), 4);
        rowIs(x, "38", 1, 1, 2, 3, 4);
        x.put(0);
        c.due("38: to the left, over itself", x.copy(1, 0, 4), 4);
        rowIs(x, "38", 2, 3, 4, 5, 5);
        c.due("38: none", x.copy(5, 5, 0), 0);
        c.due("38: none, behind", x.copy(6, 0, 0), RankWire.COPY);
        c.due("38: none, to behind", x.copy(0, 6, 0), RankWire.COPY);
        c.due("38: i below", x.copy(-1, 0, 1), RankWire.COPY);
        c.due("38: j below", x.copy(0, -1, 1), RankWire.COPY);
        c.due("38: i + n above", x.copy(2, 0, 4), RankWire.COPY);
        c.due("38: j + n above", x.copy(0, 2, 4), RankWire.COPY);
        c.due("38: n far above", x.copy(1, 1, Integer.MAX_VALUE), RankWire.COPY);
        c.due("38: i far above", x.copy(Integer.MAX_VALUE, 0, Integer.MAX_VALUE), RankWire.COPY);
        c.due("38: i far below", x.copy(Integer.MIN_VALUE, 0, Integer.MAX_VALUE), RankWire.COPY);
        c.due("38: BELOW ahead of COPY", x.copy(-1, 9, -1), RankWire.BELOW);
        rowIs(x, "38, as it was", 2, 3, 4, 5, 5);
        c.due("38: the whole", x.copy(0, 0, 5), 5);
    }

    private static void statuses() {
        RankWire x = Wires.withWord(5, 0, 0);
        x.told(0);
        x.size(9);
        x.size(9);
        x.run(-1);
        x.run(-1);
        x.run(-1);
        x.come(0);
        x.put(0);
        x.copy(0, 0, 1);
        x.copy(0, 1, 0);
        for (int i = 0; i < 11; i++) {
            x.node();
        }
        x.word(0, 5, 0, 100, 0);
        int[] due = {0, 0, 1, 2, 3, 1, 2, 0, 2, 1};
        for (int by = 2; by < 10; by++) {
            c.due("39: status(-" + by + ")", x.status(-by), due[by]);
        }
        c.due("39: status(-1)", x.status(-1), RankWire.NO);
        c.due("39: status(0)", x.status(0), RankWire.NO);
        c.due("39: status(2)", x.status(2), RankWire.NO);
        c.due("39: status(-10)", x.status(-10), RankWire.NO);
        c.due("39: status(MIN)", x.status(Integer.MIN_VALUE), RankWire.NO);
        c.due("39: status(MAX)", x.status(Integer.MAX_VALUE), RankWire.NO);
        c.due("39: these were refused, too", x.status(RankWire.NO), 6);
        x.bit(0, 999);
        c.due("39: an answer NONE is no refusal", x.status(RankWire.NO), 6);
        bytesAreNoRefusal();
    }

    private static void bytesAreNoRefusal() {
        RankWire x = Wires.withWord(5, 8, -2);
        x.lay(0);
        x.read(0);
        c.due("39: bytes()", x.bytes(), -2);
        c.due("39: that is no refusal", x.status(RankWire.MISSING), 0);
    }

    private static void refusedCallsChangeNothing() {
        RankWire x = Wires.withWord(5, 3, 9);
        x.feed(5, 3);
        x.read(0);
        int place = x.told(0);
        x.read(4);
        c.due("5: told(0) behind a refused read", x.told(0), place);
        x.feed(-1, 40);
        x.word(0, 5, 0, 100, 0);
        x.late(0, 3);
        x.due(0, 0);
        x.rank(0, -1);
        x.run(0);
        x.disturb(-1);
        x.every(1);
        c.due("5: tape", x.wipe(), 3);
        c.due("5: words", x.count(6), 1);
        c.due("5: late", x.of(0, 6), 0);
        c.due("5: due", x.of(0, 7), 100);
        c.due("5: rank", x.of(0, 1), 5);
        c.due("5: tick", x.count(0), 0);
        c.due("5: disturbed", x.count(7), 0);
        c.due("5: every", x.every(0), 0);
    }
}
