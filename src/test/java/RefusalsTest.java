import java.util.ArrayList;
import java.util.List;
import java.util.function.Supplier;
import java.util.function.ToIntFunction;

/**
 * Each way in which a call is refused: it answers as the document says, and changes nothing but status().
 * Two objects have the same calls behind them; one of them refuses one more, and then both answer alike.
 */
public final class RefusalsTest {
    private static final int MIN = Integer.MIN_VALUE;
    private static final int MAX = Integer.MAX_VALUE;

    public static void main(String[] args) {
        constants();
        nodesAndWords();
        ofWords();
        frames();
        tape();
        run();
        desk();
        rows();
        theFirstOfSeveral();
        Edge.end();
    }

    private static void constants() {
        Edge.of(8, "`NONE = -1`: None.").due("NONE", RankWire.NONE, -1);
        Edge.of(39, "`MISSING = -2`: Nothing there.").due("MISSING", RankWire.MISSING, -2);
        Edge.of(39, "`BEYOND = -3`: A number beyond.").due("BEYOND", RankWire.BEYOND, -3);
        Edge.of(39, "`BELOW = -4`: A count below 0.").due("BELOW", RankWire.BELOW, -4);
        Edge.of(39, "`KIND = -5`: Of another kind.").due("KIND", RankWire.KIND, -5);
        Edge.of(39, "`COPY = -6`: A copy that can't be made.").due("COPY", RankWire.COPY, -6);
        Edge.of(39, "`NO = -7`: Not as told.").due("NO", RankWire.NO, -7);
        Edge.of(39, "`FULL = -8`: There is no room.").due("FULL", RankWire.FULL, -8);
        Edge.of(39, "`SAME = -9`: A RANK that there is.").due("SAME", RankWire.SAME, -9);
    }

    private static void nodesAndWords() {
        refused(2, RankWire.FULL, RefusalsTest::withNodes, x -> x.node());
        refused(3, RankWire.BEYOND, RefusalsTest::busy, x -> x.word(3, 99, 0, 500, 0));
        refused(3, RankWire.BEYOND, RefusalsTest::busy, x -> x.word(0, 99, 30, 500, 5));
        refused(3, RankWire.NO, RefusalsTest::busy, x -> x.word(0, 99, 40, 500, 0));
        refused(3, RankWire.NO, RefusalsTest::busy, x -> x.word(0, 99, 9, 500, 0));
        refused(3, RankWire.NO, RefusalsTest::busy, x -> x.word(0, -1, 0, 500, 0));
        refused(3, RankWire.NO, RefusalsTest::busy, x -> x.word(0, 99, 0, 99, 0));
        refused(3, RankWire.NO, RefusalsTest::busy, x -> x.word(0, 99, 0, 500, -1));
        refused(3, RankWire.SAME, RefusalsTest::busy, x -> x.word(0, 5, 0, 500, 0));
        refused(3, RankWire.FULL, RefusalsTest::withWords, x -> x.word(0, 99, 0, 500, 0));
    }

    private static void ofWords() {
        int[] none = {5, -1, MIN, MAX};
        for (int w : none) {
            refused(4, RankWire.BEYOND, RefusalsTest::busy, x -> x.late(w, 3));
            refused(5, RankWire.BEYOND, RefusalsTest::busy, x -> x.due(w, 3));
            refused(6, RankWire.BEYOND, RefusalsTest::busy, x -> x.value(w, 3));
            refused(7, RankWire.BEYOND, RefusalsTest::busy, x -> x.rank(w, 3));
            refused(8, RankWire.BEYOND, RefusalsTest::busy, x -> x.of(w, 3));
            refused(9, RankWire.BEYOND, RefusalsTest::busy, x -> x.about(w, 0));
        }
        refused(4, RankWire.KIND, RefusalsTest::busy, x -> x.late(0, 3));
        refused(4, RankWire.NO, RefusalsTest::busy, x -> x.late(1, 1001));
        refused(5, RankWire.NO, RefusalsTest::busy, x -> x.due(0, 0));
        refused(7, RankWire.NO, RefusalsTest::busy, x -> x.rank(0, -1));
        refused(7, RankWire.SAME, RefusalsTest::busy, x -> x.rank(0, 6));
        refused(8, RankWire.NO, RefusalsTest::busy, x -> x.of(0, 12));
        refused(9, RankWire.NO, RefusalsTest::busy, x -> x.about(0, 3));
    }

    private static void frames() {
        int[] none = {5, -1, MIN, MAX};
        for (int w : none) {
            refused(10, RankWire.BEYOND, RefusalsTest::busy, x -> x.size(w));
            refused(11, RankWire.BEYOND, RefusalsTest::busy, x -> x.bit(w, 0));
            refused(12, RankWire.BEYOND, RefusalsTest::busy, x -> x.sum(w));
            refused(13, RankWire.BEYOND, RefusalsTest::busy, x -> x.stuffed(w));
            refused(14, RankWire.BEYOND, RefusalsTest::busy, x -> x.ahead(w, 0));
            refused(14, RankWire.BEYOND, RefusalsTest::busy, x -> x.ahead(0, w));
        }
        refused(11, RankWire.BELOW, RefusalsTest::busy, x -> x.bit(0, -1));
    }

    private static void tape() {
        refused(15, RankWire.BELOW, RefusalsTest::busy, x -> x.feed(-1, -1));
        refused(15, RankWire.NO, RefusalsTest::busy, x -> x.feed(-1, 33));
        refused(15, RankWire.FULL, RefusalsTest::withTape, x -> x.feed(-1, 32));
        refused(16, RankWire.BEYOND, RefusalsTest::busy, x -> x.lay(5));
        refused(16, RankWire.FULL, RefusalsTest::withTape, x -> x.lay(0));
        refused(17, RankWire.BEYOND, RefusalsTest::busy, x -> x.bend(x.feed(0, 0)));
        refused(17, RankWire.BEYOND, RefusalsTest::busy, x -> x.bend(-1));
        refused(19, RankWire.BEYOND, RefusalsTest::busy, x -> x.read(-1));
        refused(19, RankWire.BEYOND, RefusalsTest::busy, x -> x.read(x.feed(0, 0) + 1));
        refused(20, RankWire.NO, RefusalsTest::busy, x -> x.told(5));
        refused(20, RankWire.MISSING, RankWire::new, x -> x.told(0));
    }

    private static void run() {
        refused(22, RankWire.BEYOND, RefusalsTest::busy, x -> x.come(5));
        refused(22, RankWire.KIND, RefusalsTest::busy, x -> x.come(0));
        refused(22, RankWire.NO, RefusalsTest::busy, x -> x.come(2));
        refused(22, RankWire.NO, RefusalsTest::withAnOffNode, x -> x.come(1));
        refused(23, RankWire.NO, RefusalsTest::busy, x -> x.disturb(x.count(0) - 1));
        refused(23, RankWire.NO, RefusalsTest::busy, x -> x.disturb(x.count(0) + 2));
        refused(23, RankWire.FULL, RefusalsTest::withNoise, x -> x.disturb(x.count(0) + 1));
        refused(24, RankWire.BELOW, RefusalsTest::busy, x -> x.run(-1));
        refused(24, RankWire.NO, RefusalsTest::busy, x -> x.run(0));
        refused(24, RankWire.NO, RefusalsTest::busy, x -> x.run(5001));
        refused(25, RankWire.NO, RefusalsTest::busy, x -> x.count(8));
        refused(26, RankWire.BEYOND, RefusalsTest::busy, x -> x.log(40, 0));
        refused(26, RankWire.NO, RefusalsTest::busy, x -> x.log(0, 4));
    }

    private static void desk() {
        refused(27, RankWire.NO, RefusalsTest::busy, x -> x.every(99));
        refused(28, RankWire.BEYOND, RefusalsTest::busy, x -> x.most(5));
        refused(29, RankWire.BEYOND, RefusalsTest::busy, x -> x.worst(5));
        refused(33, RankWire.MISSING, RefusalsTest::withoutOrder, x -> x.place(0));
        refused(33, RankWire.BEYOND, RefusalsTest::busy, x -> x.place(5));
        refused(34, RankWire.MISSING, RefusalsTest::withoutOrder, x -> x.give());
    }

    private static void rows() {
        refused(35, RankWire.BEYOND, RefusalsTest::busy, x -> x.put(5));
        refused(37, RankWire.MISSING, RankWire::new, x -> x.row(0));
        refused(37, RankWire.BEYOND, RefusalsTest::busy, x -> x.row(8));
        refused(38, RankWire.MISSING, RankWire::new, x -> x.copy(0, 0, 0));
        refused(38, RankWire.BELOW, RefusalsTest::busy, x -> x.copy(0, 1, -1));
        refused(38, RankWire.COPY, RefusalsTest::busy, x -> x.copy(-1, 0, 2));
        refused(38, RankWire.COPY, RefusalsTest::busy, x -> x.copy(0, -1, 2));
        refused(38, RankWire.COPY, RefusalsTest::busy, x -> x.copy(7, 0, 2));
        refused(38, RankWire.COPY, RefusalsTest::busy, x -> x.copy(0, 7, 2));
        refused(39, RankWire.NO, RefusalsTest::busy, x -> x.status(-10));
    }

    private static void theFirstOfSeveral() {
        first(3, RankWire.BEYOND, busy().word(3, -1, 9, 99, -1));
        first(3, RankWire.BEYOND, busy().word(0, -1, 39, 99, 5));
        first(3, RankWire.BEYOND, withWords().word(0, 5, 30, 500, 24));
        first(3, RankWire.NO, withWords().word(0, 5, 0, 99, 0));
        first(3, RankWire.SAME, withWords().word(0, 5, 0, 500, 0));
        first(4, RankWire.BEYOND, busy().late(5, -1));
        first(4, RankWire.KIND, busy().late(0, -1));
        first(5, RankWire.BEYOND, busy().due(5, 0));
        first(7, RankWire.BEYOND, busy().rank(5, -1));
        first(7, RankWire.BEYOND, busy().rank(5, 6));
        first(8, RankWire.BEYOND, busy().of(5, 12));
        first(9, RankWire.BEYOND, busy().about(3, 3));
        first(11, RankWire.BEYOND, busy().bit(5, -1));
        first(15, RankWire.BELOW, withTape().feed(0, -1));
        first(15, RankWire.NO, withTape().feed(0, 33));
        first(16, RankWire.BEYOND, withTape().lay(5));
        first(20, RankWire.NO, new RankWire().told(5));
        first(22, RankWire.KIND, withAnOffNode().come(0));
        first(23, RankWire.NO, withNoise().disturb(0));
        first(23, RankWire.NO, withNoise().disturb(202));
        first(26, RankWire.BEYOND, busy().log(40, 4));
        first(33, RankWire.MISSING, withoutOrder().place(5));
        first(37, RankWire.MISSING, new RankWire().row(-1));
        first(38, RankWire.MISSING, new RankWire().copy(-1, -1, -1));
        first(38, RankWire.BELOW, busy().copy(-1, -1, -1));
    }

    private static void first(int promise, int by, int got) {
        Edge.of(promise, "of several the first as each line has them").due("the first", got, by);
    }

    private static void refused(int promise, int by, Supplier<RankWire> state, ToIntFunction<RankWire> call) {
        Edge e = Edge.of(promise, "A refused call changes nothing but status().");
        RankWire x = state.get();
        RankWire y = state.get();
        int before = y.status(by);
        e.due("it is refused by", call.applyAsInt(x), by);
        e.due("status(" + by + ")", x.status(by), before + 1);
        List<Long> got = whatIsAnswered(x);
        List<Long> due = whatIsAnswered(y);
        for (int i = 0; i < due.size(); i++) {
            e.due("by " + by + ": answer " + i + " behind it", got.get(i), due.get(i));
        }
        for (int other = RankWire.SAME; other <= RankWire.MISSING; other++) {
            e.due("by " + by + ": status(" + other + ") behind it", x.status(other), y.status(other) + (other == by ? 1 : 0));
        }
    }

    /** First what can be asked, then what further calls bring about; a tape that is full can be read at each place. */
    private static List<Long> whatIsAnswered(RankWire x) {
        List<Long> all = new ArrayList<>();
        ask(x, all);
        for (int at = 0; at <= x.feed(0, 0); at += 1 + x.feed(0, 0) / 40) {
            all.add((long) x.read(at));
            all.add((long) x.told(0));
            all.add((long) x.told(1));
        }
        all.add((long) x.copy(0, 1, 3));
        all.add((long) x.row(2));
        all.add((long) x.tear());
        all.add((long) x.come(2));
        for (int i = 0; i < 5; i++) {
            all.add((long) x.run(60));
            all.add((long) x.count(3));
            all.add((long) x.about(1, 0));
        }
        all.add((long) x.give());
        ask(x, all);
        all.add((long) x.every(0));
        all.add((long) x.wipe());
        return all;
    }

    private static void ask(RankWire x, List<Long> all) {
        for (int what = 0; what < 8; what++) {
            all.add((long) x.count(what));
        }
        for (int word = 0; word < x.count(6) && word < 5; word++) {
            for (int what = 1; what < 12; what++) {
                all.add((long) x.of(word, what));
            }
            all.add((long) x.sum(word));
            all.add((long) x.worst(word));
            all.add((long) x.place(word));
            all.add((long) x.row(word));
            all.add((long) x.told(word));
        }
        for (int i = 0; i < 3; i++) {
            for (int what = 0; what < 3; what++) {
                all.add((long) x.about(i, what));
                all.add((long) x.log(i, what));
            }
        }
        all.add(x.bytes());
        all.add(x.load());
    }

    /** All there is: a frame under way, words that wait and are due, a tape, a reading, an order, and a row. */
    private static RankWire busy() {
        RankWire x = Wires.withNodes(3);
        x.word(0, 5, 8, 700, 0);
        x.word(1, 6, 12, 900, 3);
        x.word(2, 7, 21, 600, 0);
        x.word(1, 8, 30, 800, 0);
        x.word(2, 3000, 4, 1000, 100);
        x.late(1, 30);
        x.value(0, 0x0102030405060708L);
        x.value(1, 0xFFFF);
        x.due(3, 2000);
        x.every(4000);
        x.lay(1);
        x.feed(5, 7);
        x.read(0);
        x.order();
        x.put(0);
        x.disturb(20);
        x.run(200);
        x.disturb(202);
        x.come(2);
        return x;
    }

    private static RankWire withNodes() {
        RankWire x = busy();
        for (int i = 3; i < 10; i++) {
            x.node();
        }
        return x;
    }

    private static RankWire withWords() {
        RankWire x = busy();
        for (int i = 5; i < 24; i++) {
            x.word(0, 100 + i, 20, 20000, 0);
        }
        x.order();
        return x;
    }

    private static RankWire withTape() {
        RankWire x = busy();
        while (x.feed(0, 0) < 1970) {
            x.feed(0x12345678, 19);
        }
        return x;
    }

    private static RankWire withNoise() {
        RankWire x = busy();
        for (int i = x.count(7); i < 60; i++) {
            x.disturb(1000 + 7 * i);
        }
        return x;
    }

    private static RankWire withAnOffNode() {
        RankWire x = Wires.justOff();
        x.word(0, 5, 20, 100, 0);
        x.run(1350);
        return x;
    }

    private static RankWire withoutOrder() {
        RankWire x = busy();
        x.due(0, 699);
        return x;
    }
}
