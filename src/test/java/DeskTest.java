/** Promises 27 to 34, sentence by sentence: worst times, whether all fit, and orders of ranks. */
public final class DeskTest {
    private static final int NONE = RankWire.NONE;

    public static void main(String[] args) {
        everies();
        mosts();
        worstRefused();
        whateverCame();
        byRanksAsTheyAre();
        blockedByLowerOnes();
        faults();
        faultsOfTheGreatest();
        places();
        placesByLate();
        busyFromOne();
        busyAtItsEdge();
        busyAtItsEdgeOfHigherOnes();
        busyWithLate();
        leastW();
        leastBusy();
        laterTimes();
        laterTimesBelowBusy();
        laterTimesByLate();
        worstIsTheGreatest();
        above30000();
        fits();
        noneDoesNotFit();
        loads();
        orderWithoutWords();
        ordersFromTheLastPlace();
        ordersTakeTheLeastNumber();
        orderOfOthersLeft();
        noOrder();
        orderOf24();
        placesOfTheOrder();
        orderIsForgotten();
        orderIsSoughtAgain();
        gives();
        givesMixedRanks();
        givesWhatChangesNothing();
        manyWords();
        Edge.end();
    }

    /** Words of one node in the order of their RANKS, each told as {n, T, LATE}; n + 100 has a LONG RANK. */
    private static RankWire desk(int... told) {
        RankWire x = Wires.withNodes(1);
        for (int i = 0; i < told.length / 3; i++) {
            int n = told[3 * i] % 100;
            int rank = told[3 * i] < 100 ? 10 + i : 2048 + ((10 + i) << 18);
            x.word(0, rank, 10 + n, told[3 * i + 1], 0);
            x.late(i, told[3 * i + 2]);
        }
        return x;
    }

    private static void everies() {
        Edge e = Edge.of(27, "At most one FAULT in EVERY ticks (0: none, or 100 .. 1000000): EVERY before. NO.");
        RankWire x = new RankWire();
        e.due("none at first", x.every(100), 0);
        e.due("every(1000000)", x.every(1000000), 100);
        int[] others = {99, 1, -1, -100, 1000001, Integer.MIN_VALUE, Integer.MAX_VALUE};
        for (int n : others) {
            e.due("every(" + n + ")", x.every(n), RankWire.NO);
        }
        e.due("every(0)", x.every(0), 1000000);
        e.due("every(0) again", x.every(0), 0);
    }

    private static void mosts() {
        Edge e = Edge.of(28, "C of a WORD: with L = 32 + 8 n, 18 more of a LONG RANK: L + (L - 1) / 4 (cut) + 13.");
        int[] shorts = {52, 62, 72, 82, 92, 102, 112, 122, 132};
        int[] longs = {75, 85, 95, 105, 115, 125, 135, 145, 155};
        RankWire x = Wires.withNodes(1);
        for (int n = 0; n <= 8; n++) {
            x.word(0, n, n, 100, 0);
            x.word(0, 2048 + n, 20 + n, 100, 0);
            e.due("SHORT, " + n, x.most(2 * n), shorts[n]);
            e.due("LONG, " + n, x.most(2 * n + 1), longs[n]);
        }
        x.rank(0, 2047);
        e.due("the greatest SHORT RANK", x.most(0), 52);
        x.rank(0, Wires.LAST_RANK);
        e.due("a LONG one now", x.most(0), 75);
        Edge refused = Edge.of(28, "C of a WORD. BEYOND.");
        int[] none = {18, -1, Integer.MIN_VALUE, Integer.MAX_VALUE};
        for (int word : none) {
            refused.due("most(" + word + ")", x.most(word), RankWire.BEYOND);
        }
    }

    private static void worstRefused() {
        Edge e = Edge.of(29, "WORST of a WORD; NONE: there is none. BEYOND.");
        e.due("without words", new RankWire().worst(0), RankWire.BEYOND);
        RankWire x = desk(8, 131, 0);
        // C is 132: more than T
        e.due("there is none", x.worst(0), NONE);
        for (int by = RankWire.SAME; by <= RankWire.MISSING; by++) {
            e.due("NONE is no refusal", x.status(by), 0);
        }
        int[] none = {1, -1, Integer.MIN_VALUE, Integer.MAX_VALUE};
        for (int word : none) {
            e.due("worst(" + word + ")", x.worst(word), RankWire.BEYOND);
        }
    }

    private static void whateverCame() {
        Edge e = Edge.of(29, "THE DESK looks at WORDS as they are told, whatever came.");
        RankWire x = Wires.withNodes(2);
        x.word(0, 1, 0, 500, 0);
        x.word(1, 2, 8, 600, 0);
        x.word(1, 3, 20, 700, 0);
        x.word(0, 4, 30, 800, 0);
        // all kinds alike
        e.due("ahead of it", x.worst(3), 52 + 132 + 52 + 52);
        x.value(1, -1);
        x.disturb(5);
        x.run(1000);
        e.due("behind it", x.worst(3), 52 + 132 + 52 + 52);
    }

    private static void byRanksAsTheyAre() {
        Edge e = Edge.of(29, "HIGHER ones are those whose RANK goes AHEAD.");
        RankWire x = Wires.withNodes(1);
        x.word(0, 1, 0, 1000, 0);
        x.word(0, 2048, 0, 1000, 0);
        x.word(0, 0, 8, 1000, 0);
        // 0, then the LONG one of 0, then 1
        e.due("the LONG one", x.worst(1), 51 + 132 + 75);
        e.due("the last", x.worst(0), 132 + 75 + 52);
        x.rank(2, 2);
        e.due("the LONG one is the first now", x.worst(1), 131 + 75);
        e.due("the second now", x.worst(0), 131 + 75 + 52);
    }

    private static void blockedByLowerOnes() {
        Edge e = Edge.of(29, "B: the greatest C of those that are not HIGHER, nor itself, less 1; 0 without.");
        RankWire x = desk(0, 1000, 0, 8, 1000, 0, 4, 1000, 0, 1, 1000, 0);
        e.due("the first", x.worst(0), 131 + 52);
        e.due("the second", x.worst(1), 91 + 52 + 132);
        e.due("the third", x.worst(2), 61 + 52 + 132 + 92);
        e.due("the last, 0 without", x.worst(3), 0 + 52 + 132 + 92 + 62);
        e.due("alone, not by itself", desk(8, 1000, 0).worst(0), 132);
    }

    private static void faults() {
        Edge first = Edge.of(29, "FAULTS: at most one in EVERY ticks (0: none, at first)");
        first.due("none at first", desk(0, 1000, 0).worst(0), 52);
        Edge e = Edge.of(29, "E(w) is 0 without, else, cut, (w + EVERY) / EVERY times");
        RankWire x = desk(0, 1000, 0, 0, 1000, 0);
        e.due("0 without", x.worst(1), 52 + 52);
        x.every(1000000);
        e.due("one at w = 0", x.worst(1), 52 + 70 + 52);
        // w = 52 + 70 = 122: E(122) is 140 if EVERY is 122, and 70 if it is 123
        x.every(122);
        e.due("at just EVERY ticks", x.worst(1), 52 + 140 + 52);
        x.every(123);
        e.due("at one less", x.worst(1), 52 + 70 + 52);
        // BUSY goes on and on where each EVERY ticks bring more than they have
        RankWire y = desk(7, 244, 0);
        y.every(280);
        e.due("faults without end", y.worst(0), NONE);
        RankWire z = desk(107, 192, 0);
        z.every(666);
        e.due("faults that have an end", z.worst(0), 18 + 145 + 145);
    }

    private static void faultsOfTheGreatest() {
        Edge e = Edge.of(29, "(18 and the greatest C of it and HIGHER ones)");
        RankWire x = desk(8, 10000, 0, 0, 10000, 0);
        x.every(5000);
        e.due("of a HIGHER one", x.worst(1), 150 + 132 + 52);
        e.due("of itself", x.worst(0), 51 + 150 + 132);
        RankWire y = desk(0, 10000, 0, 8, 10000, 0);
        y.every(5000);
        e.due("not of a lower one", y.worst(0), 131 + 70 + 52);
        e.due("of itself behind a lesser one", y.worst(1), 150 + 52 + 132);
    }

    private static void places() {
        Edge e = Edge.of(29, "PLACES(w, k): (w + J of k + T of k) / T of k, cut.");
        // three HIGHER ones are 52 + 132 + 92 = 276: then the first one has 2 places if its T is 276
        e.due("w is just T", desk(0, 276, 0, 8, 1000, 0, 4, 1000, 0, 0, 1000, 0).worst(3), 276 + 52 + 52);
        e.due("w is T less 1", desk(0, 277, 0, 8, 1000, 0, 4, 1000, 0, 0, 1000, 0).worst(3), 276 + 52);
        e.due("one place at w = 0", desk(101, 207, 0, 4, 191, 0).worst(1), 85 + 92);
    }

    private static void placesByLate() {
        Edge e = Edge.of(29, "(w + J of k + T of k)");
        e.due("w and J are just T", desk(0, 277, 1, 8, 1000, 0, 4, 1000, 0, 0, 1000, 0).worst(3), 276 + 52 + 52);
        e.due("w and J are T less 1", desk(0, 278, 1, 8, 1000, 0, 4, 1000, 0, 0, 1000, 0).worst(3), 276 + 52);
        // J 729 of T 282: 3 places at w = 0 and up to w = 116; at w = 186 a fourth
        e.due("J of more than T", desk(1, 282, 729, 100, 249, 0).worst(1), 4 * 62 + 75);
    }

    private static void busyFromOne() {
        Edge e = Edge.of(29, "BUSY: the least w from 1 on");
        e.due("alone", desk(0, 100, 0).worst(0), 52);
        e.due("T is just C", desk(104, 115, 0).worst(0), 115);
        e.due("T is C less 1", desk(104, 114, 0).worst(0), NONE);
    }

    private static void busyAtItsEdge() {
        Edge e = Edge.of(29, "the sum, of it and HIGHER ones, of (w + J + T - 1) / T (cut) times C");
        // the wire is just full: w = 104 is one time of each
        RankWire x = desk(0, 104, 0, 0, 104, 0);
        e.due("just full", x.worst(1), 104);
        e.due("too full by a little", desk(0, 104, 0, 0, 103, 0).worst(1), NONE);
        e.due("J of its own: too much", desk(108, 156, 194).worst(0), NONE);
        e.due("B, too, is in BUSY", desk(5, 102, 0, 7, 465, 0).worst(0), NONE);
        e.due("E, too, is in BUSY", withEvery(2491, 8, 139, 0).worst(0), NONE);
    }

    private static RankWire withEvery(int every, int... told) {
        RankWire x = desk(told);
        x.every(every);
        return x;
    }

    private static void busyAtItsEdgeOfHigherOnes() {
        Edge e = Edge.of(29, "of it and HIGHER ones");
        // BUSY is 2860: both T end there, and a time that begins there is none of it
        e.due("they end together", desk(0, 130, 0, 8, 220, 0).worst(1), 52 + 132);
        // 115 / 143 and 85 / 434 is less than 1 by 0.00006 only
        e.due("without end", desk(104, 143, 0, 101, 434, 0).worst(1), NONE);
        e.due("J of a HIGHER one: too much", desk(5, 401, 812, 7, 165, 0).worst(1), NONE);
    }

    private static void busyWithLate() {
        Edge e = Edge.of(29, "J is its LATE.");
        RankWire x = desk(0, 100, 0);
        e.due("LATE 0", x.worst(0), 52);
        x.late(0, 1);
        e.due("LATE 1", x.worst(0), 53);
        x.late(0, 1000);
        e.due("LATE 1000", x.worst(0), 1052);
    }

    private static void leastW() {
        Edge e = Edge.of(29, "W(q) is the least w from 0 on with w = B + E(w) + q C + the sum of HIGHER ones of PLACES(w, k) times C of k.");
        // w = 52 and w = 104 are both as they come out
        e.due("the least", desk(0, 104, 0, 0, 1000, 0).worst(1), 52 + 52);
        e.due("0 is one", desk(0, 1000, 0).worst(0), 0 + 52);
        e.due("B is in it", desk(0, 1000, 0, 8, 1000, 0).worst(0), 131 + 52);
        e.due("E(w) is in it", withEvery(5000, 0, 1000, 0).worst(0), 70 + 52);
        // 51 + 52 = 103, and 51 + 2 * 52 at T = 103
        e.due("HIGHER ones, one place", desk(0, 104, 0, 0, 1000, 0, 0, 1000, 0).worst(1), 51 + 52 + 52);
        e.due("HIGHER ones, two places", desk(0, 103, 0, 0, 1000, 0, 0, 1000, 0).worst(1), 51 + 2 * 52 + 52);
    }

    private static void leastBusy() {
        Edge e = Edge.of(29, "(Each least w is found from 0, or 1, by putting in what comes out, till it is the same.)");
        // BUSY is 104, and 208, 312, .. are as they come out, too, where W(1) would be 208 - 52: no worse
        e.due("just full", desk(0, 104, 0, 0, 104, 0).worst(1), 104);
        // 0 comes out of 0 for BUSY, which would leave no q
        e.due("BUSY from 1 on", desk(0, 1000, 0).worst(0), 52);
    }

    private static void laterTimes() {
        Edge e = Edge.of(29, "For each q from 0 on, with q T below BUSY and J");
        // W(0) = 104, W(1) = 52 + 3 * 52 + 2 * 52 = 312; BUSY is just 2 T = 364
        e.due("q = 1 is worse than q = 0", desk(0, 130, 0, 0, 182, 0, 0, 182, 0).worst(2), 312 - 182 + 52);
        RankWire x = desk(8, 400, 0, 8, 500, 0, 4, 900, 100, 104, 3000, 0);
        x.rank(3, 2100);
        int[] due = {378, 470, 571, 246};
        for (int i = 0; i < 4; i++) {
            e.due("worst(" + i + ") of the shared runs", x.worst(i), due[i]);
        }
        e.due("q = 2 is the worst", desk(2, 483, 689, 8, 158, 0).worst(1), 296);
    }

    private static void laterTimesBelowBusy() {
        Edge e = Edge.of(29, "(q T < BUSY + J)");
        // BUSY is 29988 = 204 * 147: for q = 204 a w would be above 30000
        e.due("q T is just BUSY", desk(8, 353, 17, 4, 147, 0).worst(1), 132 + 92);
        // BUSY is 29963 and J 25: 63 * 476
        e.due("q T is just BUSY and J", desk(3, 118, 9, 107, 476, 25).worst(1), 253);
    }

    private static void laterTimesByLate() {
        Edge e = Edge.of(29, "with q T below BUSY and J");
        // BUSY is 933 and J 843: q = 1 (T = 203) is the worst
        e.due("J is far above T", desk(108, 423, 219, 0, 203, 843).worst(1), 1054);
    }

    private static void worstIsTheGreatest() {
        Edge e = Edge.of(29, "WORST is the greatest of J + W(q) - q T + C.");
        e.due("with J of its own", desk(0, 232, 10).worst(0), 62);
        e.due("with q C", desk(0, 130, 0, 0, 182, 0, 0, 182, 0).worst(2), 182);
        e.due("J, B, HIGHER ones and C", desk(0, 1000, 0, 8, 1000, 7, 4, 1000, 0).worst(1), 7 + 91 + 52 + 132);
    }

    private static void above30000() {
        Edge e = Edge.of(29, "If a w would be above 30000, there is none (NONE).");
        e.due("BUSY of 30000, alone", desk(105, 129, 958).worst(0), 958 + 125);
        e.due("BUSY of 30000", desk(100, 335, 149, 105, 162, 118).worst(1), 357);
        e.due("BUSY of 30000, with FAULTS", withEvery(418, 4, 522, 790, 4, 579, 48, 4, 240, 937).worst(2), 1709);
        e.due("BUSY of 30001", desk(7, 123, 134, 6, 370, 979).worst(0), NONE);
        e.due("BUSY of 30001, of three", desk(1, 191, 859, 103, 126, 605, 100, 516, 441).worst(2), NONE);
    }

    private static void fits() {
        Edge e = Edge.of(30, "FITS: WORST is DUE at most.");
        RankWire x = desk(0, 1000, 0, 8, 1000, 0);
        e.due("none", x.misses(), 0);
        x.due(0, 131 + 52);
        e.due("DUE is just WORST", x.misses(), 0);
        x.due(0, 131 + 51);
        e.due("DUE is WORST less 1", x.misses(), 1);
        x.due(1, 1);
        Edge all = Edge.of(30, "How many WORDS don't FIT.");
        all.due("both", x.misses(), 2);
        all.due("without words", new RankWire().misses(), 0);
    }

    private static void noneDoesNotFit() {
        Edge e = Edge.of(30, "If a w would be above 30000, there is none (NONE).");
        RankWire x = desk(8, 100, 0, 0, 1000, 0);
        x.due(0, 1000000);
        x.due(1, 1000000);
        e.due("WORST", x.worst(0), NONE);
        e.due("those that have no WORST don't FIT", x.misses(), 2);
    }

    private static void loads() {
        Edge e = Edge.of(31, "of all WORDS 1000000 times C, divided by T (cut each), together.");
        e.due("without words", new RankWire().load(), 0);
        e.due("of two", desk(0, 1000, 0, 8, 1000, 0).load(), 52000 + 132000);
        // 52000000 / 700 = 74285.71 each
        e.due("cut each, not together", desk(0, 700, 0, 0, 700, 0).load(), 2 * 74285);
        e.due("the least", desk(0, 100000, 0).load(), 520);
        RankWire v = Wires.withNodes(1);
        for (int i = 0; i < 24; i++) {
            v.word(0, 3000 + i, 8, 100, 0);
        }
        e.due("the greatest", v.load(), 24L * 1550000);
    }

    private static void orderWithoutWords() {
        Edge e = Edge.of(32, "(Without WORDS: 1.)");
        RankWire x = new RankWire();
        e.due("order()", x.order(), 1);
        e.due("place(0)", x.place(0), RankWire.BEYOND);
        e.due("give()", x.give(), 1);
        e.due("with nodes alone", Wires.withNodes(10).order(), 1);
    }

    /** Word 0 may wait; word 1 FITS only if it goes ahead. */
    private static RankWire twoWords() {
        RankWire x = desk(0, 1000, 0, 0, 200, 0);
        x.due(1, 103);
        return x;
    }

    private static void orderIs(Edge e, RankWire x, int... due) {
        e.due("order()", x.order(), 1);
        for (int i = 0; i < due.length; i++) {
            e.due("place(" + i + ")", x.place(i), due[i]);
        }
    }

    private static void ordersFromTheLastPlace() {
        Edge e = Edge.of(32, "AN ORDER: of all WORDS, for the last place first");
        RankWire x = twoWords();
        e.due("it doesn't FIT as it is", x.misses(), 1);
        orderIs(e, x, 1, 0);
        e.due("no RANK changes by it", x.of(0, 1), 10);
        // 1 alone FITS at the last place, at DUE just as WORST
        RankWire y = desk(0, 1000, 0, 0, 1000, 0);
        y.due(0, 103);
        y.due(1, 104);
        orderIs(e, y, 0, 1);
        y.due(1, 103);
        e.due("one less", y.order(), 0);
    }

    private static void ordersTakeTheLeastNumber() {
        Edge e = Edge.of(32, "the WORD of the least number of those left that FITS");
        RankWire x = desk(0, 5000, 0, 0, 5000, 0, 0, 5000, 0, 0, 5000, 0);
        orderIs(e, x, 3, 2, 1, 0);
        // 0 doesn't FIT at the last place, but does at the one ahead of it
        x.due(0, 207);
        orderIs(e, x, 3, 2, 0, 1);
        // only the first place is left to it
        x.due(0, 103);
        orderIs(e, x, 0, 3, 2, 1);
    }

    private static void orderOfOthersLeft() {
        Edge e = Edge.of(32, "if all others left are HIGHER ones, and those that have their places are not; so place by place.");
        // 0 has the last place: it is 131 for the others, the greatest of those that have their places
        RankWire x = desk(8, 5000, 0, 0, 5000, 0, 0, 5000, 0);
        x.due(1, 131 + 52 + 52);
        x.due(2, 131 + 52);
        orderIs(e, x, 2, 1, 0);
        x.due(2, 131 + 51);
        e.due("2 FITS at no place that is left", x.order(), 0);
        x.due(2, 5000);
        x.due(0, 51 + 132);
        // at the last place 2 alone FITS; it is 51 for 1, which is 51 + 132 + 52 then, and 51 for 0
        orderIs(e, x, 0, 1, 2);
    }

    private static void noOrder() {
        Edge e = Edge.of(32, "If none FITS there is none.");
        RankWire x = twoWords();
        x.due(0, 103);
        e.due("both FIT only at the first place", x.order(), 0);
        e.due("place(0)", x.place(0), RankWire.MISSING);
        e.due("give()", x.give(), RankWire.MISSING);
        RankWire y = desk(8, 131, 0);
        y.due(0, 1000000);
        e.due("one that has no WORST", y.order(), 0);
    }

    private static void orderOf24() {
        Edge e = Edge.of(32, "AN ORDER is sought: 1, or 0: there is none.");
        RankWire x = Wires.withNodes(1);
        for (int i = 0; i < 24; i++) {
            x.word(0, i, 0, 10000, 0);
        }
        e.due("of 24", x.order(), 1);
        for (int i = 0; i < 24; i++) {
            e.due("place(" + i + ")", x.place(i), 23 - i);
        }
        e.due("place(24)", x.place(24), RankWire.BEYOND);
        for (int i = 0; i < 24; i++) {
            x.due(i, 52);
        }
        e.due("of 24 of which none FITS", x.order(), 0);
        x.due(23, 24 * 52);
        e.due("one FITS, but no other", x.order(), 0);
        e.due("place(23)", x.place(23), RankWire.MISSING);
    }

    private static void placesOfTheOrder() {
        Edge e = Edge.of(33, "The WORD at place i of THE ORDER, from 0, which goes ahead of all.");
        RankWire x = twoWords();
        orderIs(e, x, 1, 0);
        Edge refused = Edge.of(33, "EVERY changed since; BEYOND.");
        int[] none = {2, -1, Integer.MIN_VALUE, Integer.MAX_VALUE};
        for (int i : none) {
            refused.due("place(" + i + ")", x.place(i), RankWire.BEYOND);
        }
        Edge missing = Edge.of(33, "MISSING: order() wasn't 1");
        RankWire y = twoWords();
        missing.due("it wasn't called", y.place(0), RankWire.MISSING);
        y.due(0, 103);
        y.order();
        missing.due("it was 0", y.place(0), RankWire.MISSING);
        for (int i : none) {
            missing.due("MISSING ahead of BEYOND", y.place(i), RankWire.MISSING);
        }
    }

    private static RankWire ordered() {
        RankWire x = desk(0, 1000, 0, 0, 200, 0, 0, 2000, 0);
        x.due(1, 113);
        x.order();
        return x;
    }

    private static void orderIsForgotten() {
        Edge place = Edge.of(33, "or WORDS, LATE, DUE, RANKS, EVERY changed since");
        Edge give = Edge.of(34, "MISSING as place().");
        String[] changes = {"nothing", "WORDS", "LATE", "DUE", "RANKS", "EVERY", "DUE and back", "own RANK", "SAME", "late refused",
            "word refused", "every refused", "VALUE", "NODES", "what came", "DUE as it was", "LATE as it was", "EVERY as it was", "order()"};
        for (int what = 0; what < changes.length; what++) {
            RankWire x = ordered();
            boolean changed = changes(x, what);
            place.due(changes[what], x.place(0), changed ? RankWire.MISSING : 1);
            give.due(changes[what], x.give(), changed ? RankWire.MISSING : 1);
        }
    }

    /** A call behind order(): whether WORDS, LATE, DUE, RANKS or EVERY changed by it. */
    private static boolean changes(RankWire x, int what) {
        switch (what) {
            case 0: return false;
            case 1: x.word(0, 40, 20, 9999, 0); return true;
            case 2: x.late(2, 1); return true;
            case 3: x.due(0, 999); return true;
            case 4: x.rank(0, 5); return true;
            case 5: x.every(100000); return true;
            case 6: x.due(0, 999); x.due(0, 1000); return true;
            case 7: x.rank(0, 10); return false;
            case 8: x.rank(0, 11); return false;
            case 9: x.late(0, -1); return false;
            case 10: x.word(0, 10, 20, 9999, 0); return false;
            case 11: x.every(5); return false;
            case 12: x.value(0, 77); return false;
            case 13: x.node(); return false;
            case 14: x.disturb(3); x.run(500); x.misses(); x.worst(0); return false;
            case 15: x.due(0, 1000); return false;
            case 16: x.late(2, 0); return false;
            case 17: x.every(0); return false;
            default: x.order(); return false;
        }
    }

    private static void orderIsSoughtAgain() {
        Edge e = Edge.of(33, "MISSING: order() wasn't 1, or WORDS");
        RankWire x = ordered();
        x.due(0, 999);
        e.due("place(0)", x.place(0), RankWire.MISSING);
        orderIs(e, x, 1, 2, 0);
        x.word(0, 40, 0, 5000, 0);
        e.due("place(0)", x.place(0), RankWire.MISSING);
        orderIs(e, x, 1, 3, 2, 0);
        x.due(0, 1);
        e.due("none", x.order(), 0);
        e.due("place(0)", x.place(0), RankWire.MISSING);
        x.due(0, 999);
        e.due("not without order()", x.place(0), RankWire.MISSING);
    }

    private static void gives() {
        Edge e = Edge.of(34, "WORDS get the RANKS that there are, by THE ORDER: the one that goes ahead of all to the first: 1.");
        RankWire x = twoWords();
        x.order();
        e.due("give()", x.give(), 1);
        e.due("RANK of 0", x.of(0, 1), 11);
        e.due("RANK of 1", x.of(1, 1), 10);
        e.due("all FIT", x.misses(), 0);
        Edge missing = Edge.of(34, "MISSING as place().");
        missing.due("RANKS changed by give(): place(0)", x.place(0), RankWire.MISSING);
        missing.due("RANKS changed by give(): give()", x.give(), RankWire.MISSING);
        missing.due("RANK of 1", x.of(1, 1), 10);
        missing.due("without order()", twoWords().give(), RankWire.MISSING);
    }

    private static void givesMixedRanks() {
        Edge e = Edge.of(34, "the one that goes ahead of all to the first");
        RankWire x = Wires.withNodes(1);
        int[] ranks = {2047, 2048, 1, 2048 + (1 << 18), 0};
        for (int rank : ranks) {
            x.word(0, rank, 0, 10000, 0);
        }
        orderIs(e, x, 4, 3, 2, 1, 0);
        e.due("give()", x.give(), 1);
        // ahead of all goes 0, then 2048, 1, the LONG one of 1, 2047
        int[] due = {2047, 2048 + (1 << 18), 1, 2048, 0};
        for (int i = 0; i < due.length; i++) {
            e.due("RANK of " + i, x.of(i, 1), due[i]);
        }
    }

    private static void givesWhatChangesNothing() {
        Edge e = Edge.of(34, "WORDS get the RANKS that there are");
        RankWire x = twoWords();
        x.order();
        x.give();
        orderIs(e, x, 1, 0);
        e.due("no RANK becomes another one", x.give(), 1);
        e.due("RANK of 1", x.of(1, 1), 10);
        e.due("so it stands", x.place(0), 1);
    }

    private static void manyWords() {
        Edge e = Edge.of(29, "WORST of a WORD");
        RankWire x = Wires.withNodes(1);
        PlainModel m = new PlainModel();
        m.node();
        for (int i = 0; i < 24; i++) {
            int rank = i % 3 == 0 ? 3000 * (i + 1) : 5 * i;
            int kind = i % 2 == 0 ? 10 + i % 9 : i % 9;
            int t = 2000 + 397 * i;
            x.word(0, rank, kind, t, 0);
            m.word(0, rank, kind, t, 0);
            x.late(i, 31 * i);
            m.late(i, 31 * i);
            x.due(i, 30000 - 1100 * i);
            m.due(i, 30000 - 1100 * i);
        }
        for (int every = 0; every <= 4000; every += 2000) {
            x.every(every);
            m.every(every);
            for (int i = 0; i < 24; i++) {
                e.due("worst(" + i + ") of 24", x.worst(i), m.worst(i));
            }
            e.due("misses() of 24", x.misses(), m.misses());
            e.due("order() of 24", x.order(), m.order());
            for (int i = 0; i < 24; i++) {
                e.due("place(" + i + ") of 24", x.place(i), m.place(i));
            }
        }
        e.due("give() of 24", x.give(), m.give());
        for (int i = 0; i < 24; i++) {
            e.due("of(" + i + ", 1) of 24", x.of(i, 1), m.of(i, 1));
        }
    }
}
