/** Promises 27 to 34: the desk. */
public final class DeskTest {
    private static final Check c = new Check();
    private static final int NONE = RankWire.NONE;

    public static void main(String[] args) {
        everies();
        mosts();
        worstOfOne();
        worstOfSome();
        worstOfLaterTimes();
        worstWithFaults();
        worstAtTheLimit();
        whateverCame();
        missesAndLoad();
        orderOfNone();
        ordersAndGiving();
        orderTakesTheLeastNumber();
        noOrder();
        orderIsForgotten();
        givingMixedRanks();
        manyWords();
        c.end();
    }

    private static void everies() {
        RankWire x = new RankWire();
        c.due("27: every(100)", x.every(100), 0);
        c.due("27: every(1000000)", x.every(1000000), 100);
        c.due("27: every(99)", x.every(99), RankWire.NO);
        c.due("27: every(1)", x.every(1), RankWire.NO);
        c.due("27: every(-1)", x.every(-1), RankWire.NO);
        c.due("27: every(1000001)", x.every(1000001), RankWire.NO);
        c.due("27: every(0)", x.every(0), 1000000);
        c.due("27: every(0) again", x.every(0), 0);
    }

    private static void mosts() {
        int[] shorts = {52, 62, 72, 82, 92, 102, 112, 122, 132};
        int[] longs = {75, 85, 95, 105, 115, 125, 135, 145, 155};
        RankWire x = Wires.withNodes(1);
        for (int n = 0; n <= 8; n++) {
            x.word(0, n, n, 100, 0);
            x.word(0, 2048 + n, 20 + n, 100, 0);
            c.due("28: most, SHORT, " + n, x.most(2 * n), shorts[n]);
            c.due("28: most, LONG, " + n, x.most(2 * n + 1), longs[n]);
        }
        c.due("28: most(18)", x.most(18), RankWire.BEYOND);
        c.due("28: most(-1)", x.most(-1), RankWire.BEYOND);
        x.rank(0, 2047);
        c.due("28: the greatest SHORT rank", x.most(0), 52);
        x.rank(0, 5000);
        c.due("28: a LONG one now", x.most(0), 75);
    }

    private static void worstOfOne() {
        RankWire x = Wires.withNodes(1);
        c.due("29: worst(0), none", x.worst(0), RankWire.BEYOND);
        x.word(0, 5, 10, 100, 0);
        c.due("29: alone", x.worst(0), 52);
        x.late(0, 1000);
        c.due("29: alone and late", x.worst(0), 1052);
        c.due("29: worst(-1)", x.worst(-1), RankWire.BEYOND);
        RankWire y = Wires.withNodes(1);
        y.word(0, 5, 8, 132, 0);
        c.due("29: the wire is just full", y.worst(0), 132);
        RankWire z = Wires.withNodes(1);
        z.word(0, 5, 8, 131, 0);
        c.due("29: it is too full", z.worst(0), NONE);
    }

    private static void worstOfSome() {
        RankWire x = Wires.withNodes(1);
        x.word(0, 1, 0, 1000, 0);
        x.word(0, 2, 8, 1000, 0);
        x.word(0, 3, 24, 1000, 0);
        x.word(0, 4, 31, 1000, 1);
        // behind the greatest C of the lower ones less 1, then the higher ones, then its own
        c.due("29: the first", x.worst(0), 131 + 52);
        c.due("29: the second", x.worst(1), 91 + 52 + 132);
        c.due("29: the third", x.worst(2), 61 + 52 + 132 + 92);
        c.due("29: the last", x.worst(3), 0 + 52 + 132 + 92 + 62);
        // a higher one that comes once more while it waits: at w = 276 it has 2 places if T is 276, 1 if 277
        RankWire y = Wires.withNodes(1);
        y.word(0, 1, 0, 276, 0);
        y.word(0, 2, 8, 1000, 0);
        y.word(0, 3, 4, 1000, 0);
        y.word(0, 4, 0, 1000, 0);
        c.due("29: one place less a tick later", y.worst(3), 52 + 132 + 92 + 52 + 52);
        RankWire z = Wires.withNodes(1);
        z.word(0, 1, 0, 277, 0);
        z.word(0, 2, 8, 1000, 0);
        z.word(0, 3, 4, 1000, 0);
        z.word(0, 4, 0, 1000, 0);
        c.due("29: one place", z.worst(3), 52 + 132 + 92 + 52);
        // J of a higher one: w + J + T
        RankWire v = Wires.withNodes(1);
        v.word(0, 1, 10, 277, 0);
        v.word(0, 2, 8, 1000, 0);
        v.word(0, 3, 4, 1000, 0);
        v.word(0, 4, 0, 1000, 0);
        v.late(0, 1);
        c.due("29: one place more by J", v.worst(3), 52 + 132 + 92 + 52 + 52);
    }

    private static void worstOfLaterTimes() {
        // from the shared runs: the wire is full for long, and a later time is the worst
        RankWire x = Wires.withNodes(1);
        x.word(0, 10, 8, 400, 0);
        x.word(0, 20, 8, 500, 0);
        x.word(0, 30, 14, 900, 0);
        x.word(0, 2100, 4, 3000, 0);
        x.late(2, 100);
        int[] due = {378, 470, 571, 246};
        for (int i = 0; i < 4; i++) {
            c.due("29: worst(" + i + ")", x.worst(i), due[i]);
        }
        // its own time q = 1 is worse than q = 0: W(0) = 104, W(1) = 52 + 3 * 52 + 2 * 52; BUSY is just 2 T
        RankWire y = Wires.withNodes(1);
        y.word(0, 1, 0, 130, 0);
        y.word(0, 2, 0, 182, 0);
        y.word(0, 3, 10, 182, 0);
        c.due("29: a later time is the worst", y.worst(2), 312 - 182 + 52);
    }

    private static void worstWithFaults() {
        RankWire x = Wires.withNodes(1);
        x.word(0, 5, 0, 1000, 0);
        x.every(100);
        // E(0) = 70, E(70) = 70
        c.due("29: a fault", x.worst(0), 70 + 52);
        x.word(0, 4, 8, 1000, 0);
        // a higher one is the greatest now: 150 each; 132 + 150 * 1 = 282, .. and so on without end
        c.due("29: faults without end", x.worst(0), NONE);
        x.every(1000);
        // w = 150 + 132
        c.due("29: the greatest of the higher ones", x.worst(0), 150 + 132 + 52);
        // B = 51; its own is the greatest
        c.due("29: its own is the greatest", x.worst(1), 51 + 150 + 132);
        x.rank(1, 6);
        // a lower one isn't looked at: B = 131, and 70 for the fault
        c.due("29: not of the lower ones", x.worst(0), 131 + 70 + 52);
        RankWire y = Wires.withNodes(1);
        y.word(0, 5, 0, 1000, 0);
        y.word(0, 6, 0, 1000, 0);
        y.every(122);
        // of the second: w = 52 + 70 = 122: E(122) is 140: 192; E(192) = 140
        c.due("29: at just EVERY ticks", y.worst(1), 192 + 52);
        y.every(123);
        c.due("29: at one less", y.worst(1), 122 + 52);
    }

    private static void worstAtTheLimit() {
        RankWire x = Wires.withNodes(1);
        x.word(0, 2049, 10, 335, 0);
        x.word(0, 2050, 15, 162, 0);
        x.late(0, 149);
        x.late(1, 118);
        c.due("29: a w of 30000", x.worst(1), 357);
        RankWire y = Wires.withNodes(1);
        y.every(418);
        y.word(0, 1, 14, 522, 0);
        y.word(0, 2, 14, 579, 0);
        y.word(0, 3, 14, 240, 0);
        y.late(0, 790);
        y.late(1, 48);
        y.late(2, 937);
        c.due("29: a w of 30000, with faults", y.worst(2), 1709);
        RankWire z = Wires.withNodes(1);
        z.word(0, 1, 11, 191, 0);
        z.word(0, 2050, 13, 126, 0);
        z.word(0, 2051, 10, 516, 0);
        z.late(0, 859);
        z.late(1, 605);
        z.late(2, 441);
        c.due("29: a w of 30001", z.worst(2), NONE);
    }

    private static void whateverCame() {
        RankWire x = Wires.withNodes(1);
        x.node();
        x.word(0, 1, 0, 200, 0);
        x.word(1, 2, 8, 300, 0);
        x.word(1, 3, 20, 300, 0);
        int before = x.worst(2);
        x.value(1, -1);
        x.disturb(5);
        x.run(1000);
        c.due("29: whatever came", x.worst(2), before);
    }

    private static void missesAndLoad() {
        RankWire x = Wires.withNodes(1);
        x.word(0, 1, 0, 1000, 0);
        x.word(0, 2, 8, 1000, 0);
        c.due("30: none", x.misses(), 0);
        c.due("31: load()", x.load(), 52000 + 132000);
        x.due(0, 131 + 52);
        c.due("30: just so", x.misses(), 0);
        x.due(0, 131 + 51);
        c.due("30: one", x.misses(), 1);
        x.due(1, 1);
        c.due("30: both", x.misses(), 2);
        x.word(0, 0, 8, 100, 0);
        x.due(0, 1000000);
        x.due(1, 1000000);
        x.due(2, 1000000);
        c.due("30: those that have no WORST don't fit", x.misses(), 3);
        c.due("31: load()", x.load(), 52000 + 132000 + 1320000);
        RankWire y = Wires.withNodes(1);
        y.word(0, 1, 0, 333, 0);
        y.word(0, 2, 0, 333, 0);
        // 52000000 / 333 = 156156.15 each
        c.due("31: cut each", y.load(), 2 * 156156);
        RankWire z = Wires.withNodes(1);
        z.word(0, 1, 0, 700, 0);
        z.word(0, 2, 0, 700, 0);
        // 52000000 / 700 = 74285.71 each
        c.due("31: cut each, not together", z.load(), 2 * 74285);
        RankWire v = Wires.withNodes(1);
        for (int i = 0; i < 24; i++) {
            v.word(0, 3000 + i, 8, 100, 0);
        }
        c.due("31: the greatest", v.load(), 24L * 1550000);
    }

    private static void orderOfNone() {
        RankWire x = new RankWire();
        c.due("33: place(0) ahead of order()", x.place(0), RankWire.MISSING);
        c.due("34: give() ahead of order()", x.give(), RankWire.MISSING);
        c.due("32: order() without words", x.order(), 1);
        c.due("33: place(0)", x.place(0), RankWire.BEYOND);
        c.due("34: give()", x.give(), 1);
    }

    /** Word 0 may wait; word 1 fits only if it goes ahead. */
    private static RankWire twoWords() {
        RankWire x = Wires.withNodes(1);
        x.word(0, 1, 0, 1000, 0);
        x.word(0, 2, 0, 200, 0);
        x.due(1, 103);
        return x;
    }

    private static void ordersAndGiving() {
        RankWire x = twoWords();
        c.due("30: misses()", x.misses(), 1);
        c.due("32: order()", x.order(), 1);
        c.due("33: place(0)", x.place(0), 1);
        c.due("33: place(1)", x.place(1), 0);
        c.due("33: place(2)", x.place(2), RankWire.BEYOND);
        c.due("33: place(-1)", x.place(-1), RankWire.BEYOND);
        c.due("32: it changes no RANK", x.of(0, 1), 1);
        c.due("34: give()", x.give(), 1);
        c.due("34: RANK of the other", x.of(1, 1), 1);
        c.due("34: RANK of the one", x.of(0, 1), 2);
        c.due("30: all fit", x.misses(), 0);
        c.due("33: RANKS changed", x.place(0), RankWire.MISSING);
        c.due("34: RANKS changed", x.give(), RankWire.MISSING);
        c.due("32: order() again", x.order(), 1);
        c.due("33: the same", x.place(0), 1);
        c.due("34: no RANK becomes another one", x.give(), 1);
        c.due("33: so it still stands", x.place(0), 1);
    }

    private static void orderTakesTheLeastNumber() {
        RankWire x = Wires.withNodes(1);
        for (int i = 0; i < 4; i++) {
            x.word(0, 10 + i, 0, 5000, 0);
        }
        c.due("32: order()", x.order(), 1);
        for (int i = 0; i < 4; i++) {
            c.due("33: the least number at the last place", x.place(i), 3 - i);
        }
        // word 0 doesn't fit at the last place, but does at the one ahead of it
        x.due(0, 207);
        c.due("32: order()", x.order(), 1);
        int[] due = {3, 2, 0, 1};
        for (int i = 0; i < 4; i++) {
            c.due("33: place(" + i + ")", x.place(i), due[i]);
        }
        x.due(0, 103);
        c.due("32: order()", x.order(), 1);
        c.due("33: only the first place is left to it", x.place(0), 0);
    }

    private static void noOrder() {
        RankWire x = twoWords();
        x.due(0, 103);
        c.due("32: both fit only at first", x.order(), 0);
        c.due("33: place(0)", x.place(0), RankWire.MISSING);
        c.due("33: MISSING ahead of BEYOND", x.place(-1), RankWire.MISSING);
        c.due("34: give()", x.give(), RankWire.MISSING);
        x.due(0, 104);
        c.due("32: order()", x.order(), 1);
        x.due(0, 103);
        c.due("32: none any more", x.order(), 0);
        c.due("33: none any more", x.place(0), RankWire.MISSING);
    }

    private static RankWire ordered() {
        RankWire x = twoWords();
        x.word(0, 30, 10, 2000, 0);
        x.due(1, 113);
        c.due("32: order()", x.order(), 1);
        c.due("33: it stands", x.place(2) >= 0 ? 1 : 0, 1);
        return x;
    }

    private static void orderIsForgotten() {
        for (int what = 0; what < 14; what++) {
            RankWire x = ordered();
            boolean changed = changes(x, what);
            c.due("33: change " + what, x.place(0), changed ? RankWire.MISSING : 1);
            c.due("34: change " + what, x.give(), changed ? RankWire.MISSING : 1);
        }
    }

    /** A call behind order(): whether WORDS, LATE, DUE, RANKS or EVERY changed by it. */
    private static boolean changes(RankWire x, int what) {
        switch (what) {
            case 0: x.word(0, 40, 20, 9999, 0); return true;
            case 1: x.late(2, 1); return true;
            case 2: x.due(0, 999); return true;
            case 3: x.rank(0, 5); return true;
            case 4: x.every(100000); return true;
            case 5: x.due(0, 999); x.due(0, 1000); return true;
            case 6: x.rank(0, 1); return false;
            case 7: x.rank(0, 2); return false;
            case 8: x.late(0, 1); return false;
            case 9: x.word(0, 1, 20, 9999, 0); return false;
            case 10: x.every(5); return false;
            case 11: x.value(0, 77); return false;
            case 12: x.node(); return false;
            default: x.run(500); x.misses(); x.worst(0); return false;
        }
    }

    private static void givingMixedRanks() {
        RankWire x = Wires.withNodes(1);
        int[] ranks = {2047, 2048, 1, 2048 + (1 << 18), 0};
        for (int i = 0; i < ranks.length; i++) {
            x.word(0, ranks[i], 0, 10000, 0);
        }
        c.due("32: order()", x.order(), 1);
        c.due("34: give()", x.give(), 1);
        // 4 is at the first place, 0 at the last one; ahead of all goes 0, then 2048, 1, the LONG one of 1, 2047
        int[] due = {2047, 2048 + (1 << 18), 1, 2048, 0};
        for (int i = 0; i < due.length; i++) {
            c.due("34: of(" + i + ", 1)", x.of(i, 1), due[i]);
        }
    }

    private static void manyWords() {
        RankWire x = new RankWire();
        PlainModel m = new PlainModel();
        x.node();
        m.node();
        for (int i = 0; i < 24; i++) {
            int rank = i % 3 == 0 ? 3000 * (i + 1) : 5 * i;
            int kind = i % 2 == 0 ? 10 + i % 9 : i % 9;
            int t = 2000 + 397 * i;
            x.word(0, rank, kind, t, 0);
            m.word(0, rank, kind, t, 0);
            x.late(i, 31 * i);
            m.late(i, 31 * i);
            x.due(i, 30000 - 1100 * i);
            m.due(i, 30000 - 1100 * i);
        }
        for (int every = 0; every <= 4000; every += 2000) {
            x.every(every);
            m.every(every);
            for (int i = 0; i < 24; i++) {
                c.due("29: worst(" + i + ") of 24", x.worst(i), m.worst(i));
            }
            c.due("30: misses() of 24", x.misses(), m.misses());
            c.due("32: order() of 24", x.order(), m.order());
            for (int i = 0; i < 24; i++) {
                c.due("33: place(" + i + ") of 24", x.place(i), m.place(i));
            }
        }
        c.due("34: give() of 24", x.give(), m.give());
        for (int i = 0; i < 24; i++) {
            c.due("34: of(" + i + ", 1) of 24", x.of(i, 1), m.of(i, 1));
        }
    }
}
