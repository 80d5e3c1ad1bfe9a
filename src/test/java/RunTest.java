/** Promises 22 to 26, and what 8 and 9 tell as ticks run, sentence by sentence. */
public final class RunTest {
    private static final int NONE = RankWire.NONE;
    private static final int SIZE = Wires.SIZE_OF_0;
    private static final int LAST = Wires.LAST_OF_0;
    private static final int NINTH = Wires.NINTH_OF_0;
    private static final int OFF = Wires.OFF_OF_0;

    public static void main(String[] args) {
        ticksAreNumbered();
        timedFromItsFirst();
        timedEachT();
        timedIsNeverLate();
        shakenLater();
        shakenByLateAsItIs();
        shakenTimeByTime();
        shakenTimesInOrderWhereLateWraps();
        shakenTimeFromWithoutLate();
        leftOutTimes();
        leftOutTimesOfShakenOnes();
        rareByHandAlone();
        answers();
        answersInTheNextTick();
        answerThatIsToldLater();
        thoseThatAreDueWait();
        lossOfOneThatWaits();
        noLossWhileUnderWay();
        byItsRankAsItIsThen();
        whereTheWireIsFree();
        theFirstRankGoesOn();
        valueAsItBegins();
        forSizeTicks();
        disturbedTick();
        besideDisturbedTicks();
        firstDisturbedTick();
        aloneAtTheNinth();
        aloneAndDisturbed();
        aloneAsItBegins();
        offNodesAreNone();
        countsWhereItFails();
        waitsAgain();
        cameAgainMeanwhile();
        cameAgainInThatTick();
        freeFromThe18th();
        heardAtItsLastTick();
        countsWhereItIsHeard();
        freeFromThe4th();
        noneWaitsOfAnOffNode();
        thoseOfOthersGoOn();
        othersBecomeOff();
        zeroAgainBehind1408();
        comesAsCountIsZeroAgain();
        offNodesDontCome();
        comes();
        comesOnlyByItsTick();
        comeRefused();
        comeLessThanT();
        comeOfAnOffNode();
        disturbs();
        disturbRefused();
        disturbFull();
        runs();
        runRefused();
        counts();
        countOfWhatIsUnderWay();
        logs();
        logOfForty();
        Edge.end();
    }

    private static void logIs(Edge e, RankWire x, int i, int word, int began, int ended, int time) {
        int[] due = {word, began, ended, time};
        for (int what = 0; what < 4; what++) {
            e.due("log(" + i + ", " + what + ")", x.log(i, what), due[what]);
        }
    }

    // ---- how words come

    private static void ticksAreNumbered() {
        Edge e = Edge.of(25, "TICKS are numbered; the one that is open is 0 at first.");
        RankWire x = new RankWire();
        e.due("at first", x.count(0), 0);
        x.run(1);
        e.due("behind one", x.count(0), 1);
        x.run(5000);
        e.due("behind 5001", x.count(0), 5001);
    }

    private static void timedFromItsFirst() {
        Edge e = Edge.of(24, "0 TIMED: comes at TICK FIRST");
        int[] firsts = {0, 1, 7, 100000};
        for (int first : firsts) {
            RankWire x = Wires.withWordOf0(0, 100, first);
            Wires.runTo(x, first);
            e.due("ahead of FIRST " + first, x.count(3), NONE);
            e.due("HEARD", x.count(1), 0);
            x.run(1);
            e.due("at FIRST " + first, x.count(3), 0);
        }
    }

    private static void timedEachT() {
        Edge e = Edge.of(24, "and each T ticks on");
        int[] ts = {100, 101, 5000, 100000};
        for (int t : ts) {
            RankWire x = Wires.withWordOf0(0, t, 3);
            Wires.runTo(x, 3 + t);
            e.due("ahead of the second time", x.count(3), NONE);
            e.due("HEARD", x.count(1), 1);
            x.run(1);
            e.due("at the second time", x.count(3), 0);
            Wires.runTo(x, 3 + 2 * t + 1);
            e.due("at the third time", x.count(3), 0);
            e.due("HEARD", x.count(1), 2);
        }
    }

    private static void timedIsNeverLate() {
        Edge e = Edge.of(8, "each T ticks on (LATE is 0)");
        RankWire x = Wires.withWordOf0(0, 100, 0);
        e.due("late(0, 9)", x.late(0, 9), RankWire.KIND);
        e.due("of(0, 6)", x.of(0, 6), 0);
        Wires.runTo(x, 1000);
        for (int i = 0; i < 10; i++) {
            logIs(e, x, i, 0, 900 - 100 * i, 900 - 100 * i + LAST, LAST);
        }
    }

    private static void shakenLater() {
        Edge e = Edge.of(24, "the k-th time (k from 0) later by 7 * k modulo LATE + 1");
        int[][] laters = {{0, 0, 0, 0, 0}, {6, 0, 0, 0, 0}, {7, 7, 6, 5, 4}, {8, 7, 5, 3, 1}, {20, 7, 14, 0, 7}, {28, 7, 14, 21, 28}, {1000, 7, 14, 21, 28}};
        for (int[] later : laters) {
            RankWire x = Wires.withWordOf0(1, 100, 10);
            x.late(0, later[0]);
            x.run(500);
            logIs(e, x, 4, 0, 10, 10 + LAST, LAST);
            for (int k = 1; k < 5; k++) {
                int begin = 10 + 100 * k + later[k];
                logIs(e, x, 4 - k, 0, begin, begin + LAST, later[k] + LAST);
            }
        }
    }

    private static void shakenByLateAsItIs() {
        Edge e = Edge.of(4, "not ahead of its tick (by LATE as it is then)");
        RankWire x = Wires.withWordOf0(1, 200, 0);
        x.late(0, 100);
        Wires.runTo(x, 204);
        x.late(0, 5);
        // 7 modulo 6 is 1: its tick 201 is gone by, so it comes at once
        e.due("not yet", x.count(3), NONE);
        x.run(1);
        e.due("in the tick that is open", x.count(3), 0);
        Wires.runTo(x, 402);
        x.late(0, 1000);
        // 14 later
        Wires.runTo(x, 414);
        e.due("not ahead of its tick", x.count(3), NONE);
        x.run(1);
        e.due("in its tick", x.count(3), 0);
        x.run(100);
        logIs(e, x, 1, 0, 204, 204 + LAST, 4 + LAST);
        logIs(e, x, 0, 0, 414, 414 + LAST, 14 + LAST);
    }

    private static void shakenTimeByTime() {
        Edge e = Edge.of(4, "time by time, one in a tick at most");
        RankWire x = Wires.withNodes(2);
        Wires.runTo(x, 10000);
        x.word(0, 0, 10, 100, 0);
        x.late(0, 1000);
        // k is 100: 700 later; then six times, k 100 .. 105, are due at once
        e.due("none is due yet", x.run(500), 0);
        e.due("none WAITS", x.of(0, 8), 0);
        x.late(0, 0);
        x.run(1);
        e.due("the first one comes, and begins", x.count(3), 0);
        e.due("the second one has not come", x.of(0, 8), 0);
        x.run(1);
        e.due("the second one comes", x.of(0, 8), 1);
        e.due("no LOSS", x.of(0, 10), 0);
        for (int i = 1; i <= 6; i++) {
            x.run(1);
            e.due("LOSSES, one in a tick", x.of(0, 10), Math.min(i, 4));
        }
        x.run(2 * SIZE);
        logIs(e, x, 1, 0, 10500, 10500 + LAST, 500 + LAST);
        logIs(e, x, 0, 0, 10500 + SIZE + 3, 10500 + 2 * SIZE + 2, 2 * SIZE + 2);
    }

    private static void shakenTimesInOrderWhereLateWraps() {
        Edge e = Edge.of(24, "7 * k modulo LATE + 1; time by time");
        RankWire x = Wires.withWordOf0(1, 100, 0);
        x.late(0, 1000);
        // k = 142 is 994 later, k = 143 not at all: it waits for the one before
        Wires.runTo(x, 15194);
        int losses = x.of(0, 10);
        e.due("k = 142 has not come", x.count(3), NONE);
        x.run(1);
        e.due("k = 142", x.count(3), 0);
        x.run(1);
        e.due("k = 143 in the next tick", x.of(0, 8), 1);
        e.due("that is no LOSS", x.of(0, 10), losses);
        x.run(20);
        // k = 144 .. 151 are due up to 15156, k = 152 in 15263
        e.due("k = 144 .. 151, one in a tick", x.of(0, 10), losses + 8);
        Wires.runTo(x, 15300);
        logIs(e, x, 1, 0, 15194, 15194 + LAST, 994 + LAST);
        logIs(e, x, 0, 0, 15245, 15245 + LAST, 145 + LAST);
    }

    private static void shakenTimeFromWithoutLate() {
        Edge e = Edge.of(26, "(of a SHAKEN one: from that in which it would have come without being late)");
        RankWire x = Wires.withWordOf0(1, 100, 0);
        x.late(0, 50);
        x.disturb(107);
        x.run(200);
        // it FAILS in 107, and WAITS again from when it came
        logIs(e, x, 1, 0, 107, 107, NONE);
        logIs(e, x, 0, 0, 125, 125 + LAST, 25 + LAST);
        e.due("the greatest TIME", x.of(0, 11), 25 + LAST);
    }

    private static void leftOutTimes() {
        Edge e = Edge.of(3, "Times FIRST + k T ahead of the tick in which the WORD was told are left out.");
        for (int kind = 0; kind < 20; kind += 10) {
            RankWire x = Wires.withNodes(2);
            x.run(250);
            x.word(0, 0, kind, 100, 50);
            x.run(1);
            e.due("a time in that tick", x.count(3), 0);
            RankWire y = Wires.withNodes(2);
            y.run(251);
            y.word(0, 0, kind, 100, 50);
            e.due("a time one ahead of it", y.run(99), 0);
            e.due("none is under way", y.count(3), NONE);
            y.run(1);
            e.due("the next time", y.count(3), 0);
            e.due("no LOSSES", y.of(0, 10), 0);
            RankWire z = Wires.withNodes(2);
            z.run(10);
            z.word(0, 0, kind, 100, 50);
            z.run(40);
            e.due("ahead of FIRST", z.count(3), NONE);
            z.run(1);
            e.due("FIRST is yet to come", z.count(3), 0);
        }
    }

    private static void leftOutTimesOfShakenOnes() {
        Edge e = Edge.of(3, "Times FIRST + k T ahead of the tick");
        RankWire x = Wires.withNodes(2);
        x.run(101);
        x.word(0, 0, 10, 100, 0);
        x.late(0, 20);
        // k = 1 would come in 107, but its time 100 is left out; k = 2 is 14 later
        e.due("not k = 1", x.run(214 - 101), 0);
        e.due("none is under way", x.count(3), NONE);
        x.run(1);
        e.due("k = 2", x.count(3), 0);
    }

    private static void rareByHandAlone() {
        Edge e = Edge.of(22, "2 RARE: by hand.");
        RankWire x = Wires.withWordOf0(2, 100, 3);
        e.due("it doesn't come by FIRST and T", x.run(1000), 0);
        e.due("none is under way", x.count(3), NONE);
        x.come(0);
        x.run(1);
        e.due("by hand", x.count(3), 0);
        e.due("once", x.run(1000), 1);
    }

    private static void answers() {
        Edge e = Edge.of(24, "3 ASKED: as an answer to a WORD");
        RankWire x = Wires.withNodes(3);
        x.word(0, 100, 0, 5000, 10);
        x.word(1, 90, 30, 100, 0);
        x.word(2, 80, 30, 100, 0);
        x.word(0, 70, 30, 100, 2);
        x.run(600);
        int heard = 10 + x.size(0) - 1;
        int second = heard + 4 + x.size(2) - 1;
        logIs(e, x, 2, 2, heard + 4, second, second - heard - 1);
        int third = second + 4 + x.size(3) - 1;
        logIs(e, x, 1, 3, second + 4, third, third - second - 1);
        int fourth = third + 4 + x.size(1) - 1;
        logIs(e, x, 0, 1, third + 4, fourth, fourth - heard - 1);
        e.due("HEARD", x.count(1), 4);
        e.due("nothing more", x.run(4000), 0);
    }

    private static void answersInTheNextTick() {
        Edge e = Edge.of(24, "ASKED WORDS that answer it come in the next tick");
        RankWire x = Wires.withWordOf0(0, 1000, 0);
        x.word(1, 5, 30, 100, 0);
        x.disturb(3);
        x.run(4);
        x.run(1);
        e.due("not where it FAILS", x.of(1, 8), 0);
        Wires.runTo(x, 3 + 18 + LAST);
        x.run(1);
        e.due("it is HEARD", x.of(0, 9), 1);
        e.due("not in that tick", x.of(1, 8), 0);
        x.run(1);
        e.due("in the next one", x.of(1, 8), 1);
        x.run(200);
        e.due("its TIME is from that one", x.log(0, 3), 2 + x.size(1));
    }

    private static void answerThatIsToldLater() {
        Edge e = Edge.of(24, "ASKED WORDS that answer it come");
        RankWire x = Wires.withWordOf0(0, 1000, 0);
        x.run(LAST);
        x.word(1, 5, 30, 100, 0);
        x.run(2);
        e.due("told while it was under way", x.of(1, 8), 1);
        RankWire y = Wires.withWordOf0(0, 1000, 0);
        y.run(SIZE);
        y.word(1, 5, 30, 100, 0);
        y.run(2);
        e.due("told behind that", y.of(1, 8), 0);
    }

    // ---- how they wait and begin

    private static void thoseThatAreDueWait() {
        Edge e = Edge.of(8, "(2) WORDS come, by numbers, those that are due: each then WAITS");
        RankWire x = Wires.withNodes(2);
        for (int i = 0; i < 24; i++) {
            x.word(i % 2, 24 - i, i % 3 == 2 ? 20 : i % 3 * 10, 5000, 4);
        }
        for (int i = 2; i < 24; i += 3) {
            e.due("come(" + i + ")", x.come(i), 1);
        }
        x.run(1);
        for (int i = 0; i < 24; i++) {
            // the RARE ones came in tick 0, and the last of them goes ahead of all
            e.due("whether " + i + " WAITS in tick 0", x.of(i, 8), i % 3 == 2 && i < 23 ? 1 : 0);
        }
        e.due("the one under way", x.count(3), 23);
        x.run(3);
        e.due("those of tick 4 don't WAIT", x.of(0, 8) + x.of(1, 8), 0);
        x.run(1);
        for (int i = 0; i < 24; i++) {
            e.due("whether " + i + " WAITS in tick 4", x.of(i, 8), i < 23 ? 1 : 0);
        }
    }

    private static void lossOfOneThatWaits() {
        Edge e = Edge.of(8, "if it WAITED already, that is a LOSS more (it WAITS from now on)");
        RankWire x = Wires.withNodes(2);
        x.word(0, 1, 8, 100, 0);
        x.value(0, 0x5555555555555555L);
        x.word(1, 2, 0, 100, 1);
        x.run(101);
        e.due("it WAITS", x.of(1, 8), 1);
        e.due("no LOSS", x.of(1, 10), 0);
        x.run(1);
        e.due("a LOSS", x.of(1, 10), 1);
        e.due("it WAITS", x.of(1, 8), 1);
        x.run(900);
        e.due("ten LOSSES", x.of(1, 10), 10);
        x.rank(0, 3);
        x.run(300);
        e.due("its TIME is from when it came last", x.of(1, 11) < 200 ? 1 : 0, 1);
    }

    private static void noLossWhileUnderWay() {
        Edge e = Edge.of(8, "and it doesn't WAIT any more");
        RankWire x = Wires.withNodes(2);
        x.word(0, 1, 8, 100, 0);
        x.value(0, 0x5555555555555555L);
        int size = x.size(0);
        x.run(100);
        e.due("under way", x.count(3), 0);
        e.due("it doesn't WAIT", x.of(0, 8), 0);
        x.run(1);
        e.due("it came again, and WAITS", x.of(0, 8), 1);
        e.due("that is no LOSS", x.of(0, 10), 0);
        Wires.runTo(x, size + 4 + size);
        logIs(e, x, 0, 0, size + 3, 2 * size + 2, 2 * size + 2 - 100);
    }

    private static void byItsRankAsItIsThen() {
        Edge e = Edge.of(7, "the one whose RANK goes AHEAD of all");
        RankWire x = Wires.withNodes(2);
        x.word(0, 5, 0, 1000, 0);
        x.word(0, 6, 0, 1000, 0);
        x.word(0, 7, 0, 1000, 0);
        x.run(1);
        x.rank(2, 0);
        x.run(150);
        e.due("the RANK as it is then", x.log(1, 0), 2);
    }

    private static void whereTheWireIsFree() {
        Edge e = Edge.of(24, "(3) If THE WIRE is free, and WORDS WAIT");
        RankWire x = Wires.withWordOf0(0, 1000, 0);
        x.word(1, 1, 0, 1000, 0);
        Wires.runTo(x, LAST + 4);
        e.due("the tick from which it is free", x.count(4), LAST + 4);
        e.due("not yet", x.count(3), NONE);
        x.run(1);
        e.due("from there on", x.count(3), 1);
        RankWire y = Wires.withWordOf0(0, 1000, 0);
        y.word(1, 1, 0, 1000, LAST + 5);
        Wires.runTo(y, LAST + 5);
        e.due("none WAITS", y.count(3), NONE);
        y.run(1);
        e.due("one that comes later begins at once", y.count(3), 1);
    }

    private static void theFirstRankGoesOn() {
        Edge e = Edge.of(24, "the one whose RANK goes AHEAD of all: its FRAME");
        RankWire x = Wires.withNodes(2);
        x.word(0, 9, 0, 1000, 0);
        x.word(1, 2048 + (8 << 18), 0, 1000, 0);
        x.word(0, 8, 0, 1000, 1);
        x.word(1, 2, 0, 1000, 400);
        int longSize = x.size(1);
        int shortSize = x.size(2);
        x.run(300);
        // the LONG one of 8 goes ahead of 9; 8 comes while it is under way, and goes ahead of 9, too
        logIs(e, x, 2, 1, 0, longSize - 1, longSize - 1);
        int next = longSize - 1 + 4;
        logIs(e, x, 1, 2, next, next + shortSize - 1, next + shortSize - 1 - 1);
        next += shortSize - 1 + 4;
        logIs(e, x, 0, 0, next, next + x.size(0) - 1, next + x.size(0) - 1);
    }

    private static void valueAsItBegins() {
        Edge e = Edge.of(24, "its FRAME (with its VALUE now)");
        RankWire x = Wires.withNodes(2);
        x.word(0, 5, 1, 1000, 0);
        x.word(1, 9, 1, 1000, 0);
        x.run(1);
        // 0 is under way with 53 bits, 1 waits: now both get others
        x.value(0, 0x55);
        x.rank(0, 2048);
        x.rank(1, 133);
        x.value(1, 13);
        e.due("its SIZE as it began", x.run(52), 1);
        Wires.runTo(x, 52 + 4);
        e.due("the other one's as it begins", x.run(49), 0);
        e.due("its last tick", x.run(1), 1);
    }

    private static void forSizeTicks() {
        Edge e = Edge.of(24, "is under way from this tick on for SIZE ticks");
        RankWire x = Wires.withWordOf0(0, 1000, 7);
        x.run(8);
        e.due("from the first one", x.count(3), 0);
        x.run(LAST - 1);
        e.due("at the last but one", x.count(3), 0);
        x.run(1);
        e.due("behind the last one", x.count(3), NONE);
        logIs(e, x, 0, 0, 7, 7 + LAST, LAST);
    }

    // ---- how they fail

    private static void disturbedTick() {
        Edge e = Edge.of(24, "If one of its ticks is, the first such one is where it FAILS");
        for (int where = 0; where < SIZE; where++) {
            RankWire x = Wires.withWordOf0(0, 1000, 20);
            int at = 20 + where;
            x.disturb(at);
            x.run(at);
            e.due("none FAILED yet", x.count(2), 0);
            x.run(1);
            e.due("FAILED", x.count(2), 1);
            e.due("none is under way", x.count(3), NONE);
            logIs(e, x, 0, 0, 20, at, NONE);
            e.due("HEARD then", x.run(18 + SIZE), 1);
        }
    }

    private static void besideDisturbedTicks() {
        Edge e = Edge.of(24, "If one of its ticks is");
        RankWire x = Wires.withWordOf0(0, 1000, 20);
        x.disturb(19);
        x.disturb(20 + SIZE);
        e.due("the ones beside it", x.run(200), 1);
        e.due("none FAILED", x.count(2), 0);
        e.due("COUNT", x.about(0, 0) + x.about(1, 0), 0);
    }

    private static void firstDisturbedTick() {
        Edge e = Edge.of(24, "the first such one is where it FAILS");
        RankWire x = Wires.withWordOf0(0, 1000, 0);
        x.run(5);
        x.disturb(30);
        x.disturb(10);
        x.disturb(20);
        x.run(100);
        e.due("FAILED", x.count(2), 2);
        logIs(e, x, 2, 0, 0, 10, NONE);
        logIs(e, x, 1, 0, 28, 30, NONE);
        logIs(e, x, 0, 0, 48, 48 + LAST, 48 + LAST);
    }

    private static void aloneAtTheNinth() {
        Edge e = Edge.of(24, "if no other NODE is there that is not OFF (as it begins): the ninth tick from its end");
        RankWire x = Wires.withNodes(1);
        x.word(0, 0, 0, 1000, 4);
        Wires.runTo(x, 4 + NINTH);
        e.due("under way", x.count(3), 0);
        x.run(1);
        e.due("FAILED", x.count(2), 1);
        logIs(e, x, 0, 0, 4, 4 + NINTH, NONE);
        e.due("8 more", x.about(0, 0), 8);
        RankWire y = Wires.withWordOf0(0, 1000, 4);
        e.due("with another one", y.run(100), 1);
        RankWire z = Wires.withWord(133, 1, 13);
        z.run(42);
        logIs(e, z, 0, 0, 0, 50 - 9, NONE);
    }

    private static void aloneAndDisturbed() {
        Edge e = Edge.of(24, "the ninth tick from its end, if that is first");
        int[] beside = {-1, 0, 1};
        for (int by : beside) {
            RankWire x = Wires.withNodes(1);
            x.word(0, 0, 0, 1000, 0);
            x.disturb(NINTH + by);
            x.run(NINTH + 2);
            logIs(e, x, 0, 0, 0, Math.min(NINTH, NINTH + by), NONE);
            e.due("FAILED once", x.count(2), 1);
            e.due("8 more, once", x.about(0, 0), 8);
        }
    }

    private static void aloneAsItBegins() {
        Edge e = Edge.of(24, "that is not OFF (as it begins)");
        RankWire x = Wires.withNodes(1);
        x.word(0, 0, 0, 1000, 1);
        x.run(2);
        x.node();
        x.run(110);
        logIs(e, x, 1, 0, 1, 1 + NINTH, NONE);
        e.due("then there is another", x.count(1), 1);
        RankWire y = Wires.withNodes(1);
        y.word(0, 0, 0, 1000, 1);
        y.run(1);
        y.node();
        e.due("told ahead of its tick", y.run(100), 1);
        e.due("none FAILED", y.count(2), 0);
    }

    private static void offNodesAreNone() {
        Edge e = Edge.of(24, "if no other NODE is there that is not OFF");
        RankWire x = Wires.justOff();
        x.node();
        x.word(1, 2047, 0, 100000, OFF + 30);
        // 45 is the SIZE of RANK 2047
        Wires.runTo(x, OFF + 30 + 45 - 8);
        logIs(e, x, 0, 1, OFF + 30, OFF + 30 + 45 - 9, NONE);
        e.due("the OFF one has no more", x.about(0, 0), 256);
        e.due("the other one has 8 more", x.about(1, 0), 8);
        RankWire y = Wires.justOff();
        y.node();
        y.word(1, 2047, 0, 100000, OFF + 1407);
        y.word(1, 2046, 0, 100000, OFF + 1407);
        y.run(1407 + 45);
        e.due("OFF as it begins, not as it ends", y.count(2), 33);
        RankWire z = Wires.justOff();
        z.node();
        z.word(1, 2047, 0, 100000, OFF + 1408);
        z.run(1408 + 45);
        e.due("not OFF as it begins", z.of(1, 9), 1);
    }

    private static void countsWhereItFails() {
        Edge e = Edge.of(9, "its NODE has COUNT 8 more, all others that are not OFF 1 more");
        RankWire x = Wires.withNodes(10);
        x.word(4, 0, 0, 1000, 0);
        x.disturb(0);
        x.run(1);
        for (int i = 0; i < 10; i++) {
            e.due("COUNT of " + i, x.about(i, 0), i == 4 ? 8 : 1);
            e.due("FAILED of " + i, x.about(i, 2), i == 4 ? 1 : 0);
        }
        RankWire y = Wires.withWordOf0(0, 1000, 0);
        y.disturb(5);
        y.run(5);
        y.node();
        y.run(1);
        e.due("one that was told meanwhile", y.about(2, 0), 1);
    }

    private static void waitsAgain() {
        Edge e = Edge.of(24, "the WORD WAITS again, from when it came");
        RankWire x = Wires.withWordOf0(0, 1000, 20);
        x.disturb(25);
        x.run(26);
        e.due("it WAITS", x.of(0, 8), 1);
        e.due("no LOSS", x.of(0, 10), 0);
        x.run(100);
        logIs(e, x, 0, 0, 25 + 18, 25 + 18 + LAST, 5 + 18 + LAST);
        // another one that goes ahead goes first
        RankWire y = Wires.withNodes(2);
        y.word(0, 5, 0, 1000, 0);
        y.word(1, 0, 0, 1000, 10);
        y.disturb(10);
        y.run(29);
        e.due("another one goes ahead", y.count(3), 1);
        e.due("it WAITS", y.of(0, 8), 1);
    }

    private static void cameAgainMeanwhile() {
        Edge e = Edge.of(8, "(if it came again meanwhile that is a LOSS more, and it WAITS from then on)");
        RankWire x = Wires.withNodes(2);
        x.word(0, 1, 8, 100, 0);
        x.value(0, 0x5555555555555555L);
        int size = x.size(0);
        int at = size - 1;
        x.disturb(at);
        x.run(size);
        e.due("longer than T", size > 101 ? 1 : 0, 1);
        e.due("a LOSS", x.of(0, 10), 1);
        e.due("it WAITS", x.of(0, 8), 1);
        x.disturb(at + 18 + 3);
        x.run(18 + 4);
        e.due("it FAILED, and didn't come meanwhile", x.of(0, 10), 1);
        x.run(18 + size);
        int end = at + 18 + 3 + 18 + size - 1;
        e.due("its TIME is from then on", x.log(0, 3), end - 100);
    }

    private static void cameAgainInThatTick() {
        Edge e = Edge.of(24, "Where it FAILS (behind (3) of that tick)");
        for (int by = -1; by <= 1; by++) {
            RankWire x = Wires.withNodes(2);
            x.word(0, 1, 8, 100, 0);
            x.value(0, 0x5555555555555555L);
            x.disturb(100 + by);
            x.run(100 + by + 1);
            e.due("it came again in tick 100, and FAILED in " + (100 + by), x.of(0, 10), by < 0 ? 0 : 1);
        }
        RankWire y = Wires.withWordOf0(0, 1000, 0);
        y.disturb(0);
        y.run(1);
        e.due("it begins and FAILS in one tick", y.count(2), 1);
        logIs(e, y, 0, 0, 0, 0, NONE);
        e.due("it WAITS", y.of(0, 8), 1);
    }

    private static void freeFromThe18th() {
        Edge e = Edge.of(25, "THE WIRE is free again from the 18th tick behind it.");
        RankWire x = Wires.withWordOf0(0, 1000, 0);
        x.disturb(10);
        x.run(11);
        e.due("free from", x.count(4), 28);
        x.run(17);
        e.due("not in the 17th", x.count(3), NONE);
        x.run(1);
        e.due("in the 18th", x.count(3), 0);
    }

    // ---- how they are heard

    private static void heardAtItsLastTick() {
        Edge e = Edge.of(24, "Else it is HEARD at its last tick (behind (3))");
        RankWire x = Wires.withWordOf0(0, 1000, 0);
        x.word(1, 1, 0, 1000, LAST);
        e.due("ahead of it", x.run(LAST), 0);
        e.due("in it", x.run(1), 1);
        e.due("one that came in it WAITS", x.of(1, 8), 1);
        e.due("HEARD", x.of(0, 9), 1);
        logIs(e, x, 0, 0, 0, LAST, LAST);
        Edge time = Edge.of(26, "its TIME is how many ticks from that in which it came");
        x.run(100);
        time.due("of the other", x.log(0, 3), 4 + x.size(1) - 1);
    }

    private static void countsWhereItIsHeard() {
        Edge e = Edge.of(9, "COUNT of its NODE, and of all others that are not OFF, is 1 less (0 at least)");
        RankWire x = Wires.withNodes(3);
        x.word(1, 0, 0, 1000, 0);
        x.disturb(0);
        x.disturb(18);
        x.run(19);
        x.node();
        e.due("of its NODE", x.about(1, 0), 16);
        e.due("of another", x.about(0, 0), 2);
        x.run(18 + SIZE);
        e.due("of its NODE", x.about(1, 0), 15);
        e.due("of another", x.about(0, 0), 1);
        e.due("of another", x.about(2, 0), 1);
        e.due("0 at least", x.about(3, 0), 0);
        RankWire y = Wires.withWordOf0(0, 1000, 0);
        y.run(SIZE);
        e.due("0 at least, of its NODE", y.about(0, 0), 0);
        RankWire z = Wires.justOff();
        z.node();
        z.node();
        z.word(1, 5, 0, 100000, OFF + 1);
        z.run(100);
        e.due("HEARD", z.of(1, 9), 1);
        e.due("an OFF one has no less", z.about(0, 0), 256);
    }

    private static void freeFromThe4th() {
        Edge e = Edge.of(25, "THE WIRE is free again from the 4th tick behind it.");
        RankWire x = Wires.withWordOf0(0, 1000, 0);
        x.word(1, 1, 0, 1000, LAST + 3);
        x.run(SIZE);
        e.due("free from", x.count(4), LAST + 4);
        x.run(3);
        e.due("not in the 3rd", x.count(3), NONE);
        e.due("it WAITS", x.of(1, 8), 1);
        x.run(1);
        e.due("in the 4th", x.count(3), 1);
    }

    // ---- nodes that are off

    private static void noneWaitsOfAnOffNode() {
        Edge e = Edge.of(8, "As a NODE becomes OFF none of its WORDS WAITS any more.");
        RankWire x = Wires.withNodes(2);
        x.word(0, 0, 0, 100000, 0);
        x.word(0, 9, 20, 100, 0);
        x.word(1, 8, 20, 100, 0);
        x.come(1);
        x.come(2);
        for (int i = 0; i < 32; i++) {
            x.disturb(19 * i);
        }
        x.run(31 * 19);
        e.due("both wait", x.of(1, 8) + x.of(2, 8), 2);
        e.due("COUNT of node 0", x.about(0, 0), 248);
        x.run(1);
        e.due("OFF", x.about(0, 1), 2);
        e.due("no WORD of it WAITS", x.of(0, 8) + x.of(1, 8), 0);
        e.due("that is no LOSS", x.of(0, 10) + x.of(1, 10), 0);
        e.due("one of the other does", x.of(2, 8), 1);
        x.run(18);
        e.due("and goes on", x.count(3), 2);
        // it came again while its last FRAME was under way
        RankWire z = Wires.withNodes(1);
        z.word(0, 0, 0, 31 * (NINTH + 18) + 5, 0);
        z.run(OFF + 1);
        e.due("OFF", z.about(0, 1), 2);
        e.due("a LOSS, as it came again", z.of(0, 10), 1);
        e.due("it doesn't WAIT", z.of(0, 8), 0);
    }

    private static void thoseOfOthersGoOn() {
        Edge e = Edge.of(24, "As a NODE becomes OFF none of its WORDS WAITS any more.");
        RankWire x = Wires.withNodes(1);
        x.word(0, 0, 0, 100000, 0);
        x.word(0, 1, 20, 100, 0);
        x.word(0, 2, 20, 100, 0);
        x.run(OFF);
        x.node();
        x.node();
        x.word(1, 9, 20, 100, 0);
        x.come(3);
        x.run(1);
        e.due("OFF", x.about(0, 1), 2);
        e.due("those of it that didn't WAIT don't", x.of(1, 8) + x.of(2, 8), 0);
        e.due("the one of another does", x.of(3, 8), 1);
        x.run(18);
        e.due("and goes on", x.count(3), 3);
        e.due("and is HEARD", x.run(100), 1);
    }

    private static void othersBecomeOff() {
        Edge e = Edge.of(9, "all others that are not OFF 1 more");
        RankWire x = Wires.withNodes(10);
        for (int i = 0; i < 10; i++) {
            x.word(i, i, 20, 100, 0);
        }
        int fails = 0;
        while (x.about(0, 1) < 2 && fails < 100) {
            x.come(fails % 9 + 1);
            x.disturb(x.count(0));
            x.disturb(x.count(0) + 100);
            x.run(101);
            fails = x.count(2);
        }
        e.due("none of its FRAMES FAILED", x.about(0, 2), 0);
        int others = 0;
        for (int i = 1; i < 10; i++) {
            others += x.about(i, 2);
        }
        e.due("those of the others did", others, x.count(2));
    }

    private static void zeroAgainBehind1408() {
        Edge e = Edge.of(9, "an OFF NODE has COUNT 0 again in the tick 1408 behind that in which it became so");
        RankWire x = Wires.justOff();
        e.due("OFF", x.about(0, 1), 2);
        e.due("since", x.log(0, 2), OFF);
        x.run(1407);
        e.due("that tick is open", x.count(0), OFF + 1408);
        e.due("COUNT", x.about(0, 0), 256);
        x.run(1);
        e.due("COUNT 0 again", x.about(0, 0), 0);
        e.due("ACTIVE", x.about(0, 1), 0);
        e.due("how many FAILED is as it was", x.about(0, 2), 32);
        // the same once more
        RankWire y = Wires.withNodes(1);
        y.word(0, 0, 0, OFF + 1408 + 1, 0);
        int again = OFF + 1408 + 1 + OFF;
        Wires.runTo(y, again + 1);
        e.due("OFF once more", y.about(0, 1), 2);
        Wires.runTo(y, again + 1408);
        e.due("OFF", y.about(0, 1), 2);
        y.run(1);
        e.due("COUNT 0 once more", y.about(0, 0), 0);
        e.due("FAILED", y.about(0, 2), 64);
    }

    private static void comesAsCountIsZeroAgain() {
        Edge e = Edge.of(24, "Those of OFF NODES don't come (that time is gone).");
        // its second time is in the tick in which COUNT is 0 again
        RankWire x = Wires.withNodes(1);
        x.word(0, 0, 0, OFF + 1408, 3);
        Wires.runTo(x, 3 + OFF + 1408 + 1);
        e.due("(1) is ahead of (2)", x.count(3), 0);
        e.due("no LOSS", x.of(0, 10), 0);
        // one tick sooner
        RankWire y = Wires.withNodes(1);
        y.word(0, 0, 0, OFF + 1407, 3);
        Wires.runTo(y, 3 + OFF + 1407 + 1);
        e.due("it doesn't WAIT", y.of(0, 8), 0);
        e.due("no LOSS", y.of(0, 10), 0);
        Wires.runTo(y, 3 + 2 * (OFF + 1407));
        e.due("that time is gone", y.count(3), NONE);
        y.run(1);
        e.due("its next time", y.count(3), 0);
    }

    private static void offNodesDontCome() {
        Edge e = Edge.of(24, "Those of OFF NODES don't come");
        RankWire x = Wires.justOff();
        x.node();
        x.node();
        x.word(0, 5, 10, 200, OFF + 10);
        x.word(1, 6, 0, 100000, OFF + 10);
        x.word(0, 7, 30, 100, 2);
        x.run(300);
        e.due("HEARD of the other node", x.of(2, 9), 1);
        e.due("a SHAKEN one", x.of(1, 8) + x.of(1, 9) + x.of(1, 10), 0);
        e.due("an answer", x.of(3, 8) + x.of(3, 9) + x.of(3, 10), 0);
        Wires.runTo(x, OFF + 1408 + 1);
        e.due("those times are gone", x.of(1, 8) + x.of(3, 8), 0);
        e.due("none is under way", x.count(3), NONE);
        // OFF + 10 + 7 * 200: the next time of the SHAKEN one
        Wires.runTo(x, OFF + 10 + 1400 + 1);
        e.due("its next time", x.count(3), 1);
    }

    // ---- the calls

    private static void comes() {
        Edge e = Edge.of(22, "A RARE WORD is due in the tick that is open");
        RankWire x = Wires.withWordOf0(2, 100, 0);
        x.run(50);
        e.due("come(0)", x.come(0), 1);
        x.run(1);
        e.due("under way", x.count(3), 0);
        x.run(100);
        logIs(e, x, 0, 0, 50, 50 + LAST, LAST);
    }

    private static void comesOnlyByItsTick() {
        Edge e = Edge.of(22, "(till then it doesn't WAIT by this, nor is a LOSS counted): 1.");
        RankWire x = Wires.withNodes(2);
        x.word(0, 1, 8, 100, 0);
        x.value(0, 0x5555555555555555L);
        x.word(0, 5, 20, 100, 0);
        x.run(1);
        e.due("come(1)", x.come(1), 1);
        e.due("it doesn't WAIT", x.of(1, 8), 0);
        x.run(1);
        e.due("it WAITS", x.of(1, 8), 1);
        x.run(99);
        e.due("come(1) again", x.come(1), 1);
        e.due("no LOSS till then", x.of(1, 10), 0);
        x.run(1);
        e.due("a LOSS", x.of(1, 10), 1);
        e.due("it WAITS", x.of(1, 8), 1);
    }

    private static void comeRefused() {
        Edge e = Edge.of(22, "BEYOND, KIND; NO");
        RankWire x = Wires.justOff();
        x.word(0, 6, 10, 1000, 90000);
        x.word(0, 7, 30, 1000, 0);
        int[] none = {3, -1, Integer.MIN_VALUE, Integer.MAX_VALUE};
        for (int word : none) {
            e.due("come(" + word + ")", x.come(word), RankWire.BEYOND);
        }
        // its NODE is OFF
        for (int word = 0; word < 3; word++) {
            e.due("KIND ahead of NO", x.come(word), RankWire.KIND);
        }
        x.run(1408);
        for (int word = 0; word < 3; word++) {
            e.due("of another KIND", x.come(word), RankWire.KIND);
        }
    }

    private static void comeLessThanT() {
        Edge e = Edge.of(22, "NO: come() was told of it less than T ticks before");
        int[] ts = {100, 100000};
        for (int t : ts) {
            RankWire x = Wires.withWordOf0(2, t, 0);
            x.word(0, 1, 20, 100, 0);
            x.run(9);
            e.due("the first one", x.come(0), 1);
            e.due("in the same tick", x.come(0), RankWire.NO);
            e.due("another WORD", x.come(1), 1);
            Wires.runTo(x, 9 + t - 1);
            e.due("T - 1 ticks behind", x.come(0), RankWire.NO);
            x.run(1);
            e.due("T ticks behind", x.come(0), 1);
            x.run(1);
            e.due("one tick behind that", x.come(0), RankWire.NO);
            Wires.runTo(x, 9 + 2 * t);
            // a refused one is none: T ticks are from the last that was not
            e.due("T ticks behind that", x.come(0), 1);
        }
    }

    private static void comeOfAnOffNode() {
        Edge e = Edge.of(22, "its NODE is OFF.");
        RankWire x = Wires.justOff();
        x.word(0, 5, 20, 1409, 0);
        e.due("OFF", x.come(1), RankWire.NO);
        x.run(1407);
        e.due("OFF till (1) of the tick that is open", x.come(1), RankWire.NO);
        x.run(1);
        e.due("no more, and a refused one is none", x.come(1), 1);
    }

    private static void disturbs() {
        Edge e = Edge.of(23, "A tick is DISTURBED: how many are told.");
        RankWire x = new RankWire();
        e.due("the one that is open", x.disturb(0), 1);
        e.due("the next one", x.disturb(1), 2);
        e.due("a far one", x.disturb(Integer.MAX_VALUE), 3);
        x.run(1);
        e.due("those that are open or later", x.disturb(2), 3);
    }

    private static void disturbRefused() {
        Edge e = Edge.of(23, "NO: it is not one that is open or later, it is told already; FULL.");
        RankWire x = new RankWire();
        e.due("disturb(-1)", x.disturb(-1), RankWire.NO);
        e.due("disturb(MIN)", x.disturb(Integer.MIN_VALUE), RankWire.NO);
        x.run(10);
        e.due("the one before", x.disturb(9), RankWire.NO);
        e.due("the one that is open", x.disturb(10), 1);
        e.due("told already", x.disturb(10), RankWire.NO);
        e.due("a far one", x.disturb(Integer.MAX_VALUE), 2);
        e.due("told already", x.disturb(Integer.MAX_VALUE), RankWire.NO);
        x.run(1);
        e.due("one that ran", x.disturb(10), RankWire.NO);
    }

    private static void disturbFull() {
        Edge e = Edge.of(23, "DISTURBED ticks (60 at most that are open or later) are told.");
        RankWire x = new RankWire();
        for (int i = 0; i < 60; i++) {
            e.due("disturb", x.disturb(59 - i), i + 1);
        }
        e.due("the 61st", x.disturb(60), RankWire.FULL);
        e.due("NO ahead of FULL: told already", x.disturb(30), RankWire.NO);
        e.due("NO ahead of FULL: not one that is open", x.disturb(-1), RankWire.NO);
        e.due("how many", x.count(7), 60);
        x.run(1);
        e.due("one less is open or later", x.count(7), 59);
        e.due("room for one", x.disturb(60), 60);
        e.due("for one only", x.disturb(61), RankWire.FULL);
        x.run(60);
        e.due("none is open or later", x.count(7), 0);
        e.due("the first of 60 more", x.disturb(61), 1);
    }

    private static void runs() {
        Edge e = Edge.of(24, "n ticks (1 .. 5000): how many FRAMES were HEARD.");
        RankWire x = Wires.withWordOf0(0, 100, 0);
        e.due("run(5000)", x.run(5000), 50);
        e.due("how many ticks", x.count(0), 5000);
        e.due("run(1)", x.run(1), 0);
        e.due("how many ticks", x.count(0), 5001);
        e.due("run(LAST - 1)", x.run(LAST - 1), 0);
        e.due("its last tick", x.run(1), 1);
        e.due("in all", x.count(1), 51);
        e.due("those that FAIL are none", Wires.withWord(0, 0, 0).run(200), 0);
    }

    private static void runRefused() {
        Edge e = Edge.of(24, "BELOW, NO.");
        RankWire x = new RankWire();
        e.due("run(0)", x.run(0), RankWire.NO);
        e.due("run(5001)", x.run(5001), RankWire.NO);
        e.due("run(MAX)", x.run(Integer.MAX_VALUE), RankWire.NO);
        e.due("run(-1)", x.run(-1), RankWire.BELOW);
        e.due("run(MIN)", x.run(Integer.MIN_VALUE), RankWire.BELOW);
        e.due("no tick ran", x.count(0), 0);
    }

    private static void counts() {
        Edge e = Edge.of(25, "NODES (5), WORDS (6), DISTURBED ticks that are open or later (7). NO.");
        RankWire x = Wires.withWordOf0(0, 100, 0);
        x.node();
        x.disturb(0);
        x.disturb(1);
        int[] due = {0, 0, 0, NONE, 0, 3, 1, 2};
        for (int what = 0; what < 8; what++) {
            e.due("count(" + what + ")", x.count(what), due[what]);
        }
        x.run(1);
        e.due("DISTURBED ones that are open or later", x.count(7), 1);
        int[] others = {8, -1, Integer.MIN_VALUE, Integer.MAX_VALUE};
        for (int what : others) {
            e.due("count(" + what + ")", x.count(what), RankWire.NO);
        }
        Edge frames = Edge.of(25, "The tick that is open (what = 0), FRAMES that were HEARD (1), that FAILED (2)");
        x.run(299);
        frames.due("tick", x.count(0), 300);
        frames.due("HEARD", x.count(1), 3);
        frames.due("FAILED", x.count(2), 1);
    }

    private static void countOfWhatIsUnderWay() {
        Edge e = Edge.of(25, "the WORD under way (3; NONE), the tick from which THE WIRE is free (4; NONE while one is under way)");
        RankWire x = Wires.withWordOf0(0, 1000, 2);
        e.due("none", x.count(3), NONE);
        e.due("free from the first tick on", x.count(4), 0);
        x.run(2);
        e.due("free from the first tick on", x.count(4), 0);
        x.run(1);
        e.due("WORD 0", x.count(3), 0);
        e.due("NONE", x.count(4), NONE);
        x.run(LAST);
        e.due("none", x.count(3), NONE);
        e.due("free from", x.count(4), 2 + LAST + 4);
        x.run(500);
        e.due("free since", x.count(4), 2 + LAST + 4);
        e.due("NONE is no refusal", x.status(RankWire.NO), 0);
    }

    private static void logs() {
        Edge e = Edge.of(26, "its WORD (what = 0), the tick in which it began (1), in which it was HEARD or FAILED (2), its TIME, or NONE where it FAILED (3)");
        RankWire x = Wires.withWordOf0(0, 1000, 5);
        x.word(1, 1, 0, 1000, 0);
        x.disturb(3);
        x.run(300);
        // 1 FAILS in 3; 0 comes in 5, and goes ahead in 21; then 1 again
        logIs(e, x, 2, 1, 0, 3, NONE);
        logIs(e, x, 1, 0, 21, 21 + LAST, 16 + LAST);
        int begin = 21 + LAST + 4;
        logIs(e, x, 0, 1, begin, begin + x.size(1) - 1, begin + x.size(1) - 1);
        Edge refused = Edge.of(26, "BEYOND, NO.");
        int[] others = {4, -1, Integer.MIN_VALUE, Integer.MAX_VALUE};
        for (int what : others) {
            refused.due("log(0, " + what + ")", x.log(0, what), RankWire.NO);
            refused.due("BEYOND ahead of NO", x.log(3, what), RankWire.BEYOND);
        }
        int[] none = {3, -1, Integer.MIN_VALUE, Integer.MAX_VALUE};
        for (int i : none) {
            refused.due("log(" + i + ", 0)", x.log(i, 0), RankWire.BEYOND);
        }
        refused.due("none yet", new RankWire().log(0, 0), RankWire.BEYOND);
    }

    private static void logOfForty() {
        Edge e = Edge.of(26, "FRAME i of those that were HEARD or FAILED, from 0, the latest one first (40 at most are kept)");
        RankWire x = Wires.withWordOf0(0, 100, 0);
        for (int i = 0; i < 45; i++) {
            e.due("not so many", x.log(i, 0), RankWire.BEYOND);
            x.run(100);
            e.due("the latest one", x.log(0, 1), 100 * i);
            e.due("the first one that is kept", x.log(Math.min(i, 39), 1), 100 * Math.max(0, i - 39));
        }
        for (int i = 0; i < 40; i++) {
            logIs(e, x, i, 0, 4400 - 100 * i, 4400 - 100 * i + LAST, LAST);
        }
        e.due("log(40, 0)", x.log(40, 0), RankWire.BEYOND);
    }
}
