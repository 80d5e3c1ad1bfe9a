/** Promises 22 to 26, and 8 and 9 as ticks run: coming, waiting, failing, being heard. */
public final class RunTest {
    private static final Check c = new Check();
    private static final int NONE = RankWire.NONE;

    public static void main(String[] args) {
        oneTimedWord();
        theFirstRankGoesOn();
        lossesWhileWaiting();
        comingWhileUnderWay();
        valueAndRankAsItBegins();
        toldLater();
        shakenTimes();
        shakenTimesThatWaitForTheirTick();
        rareWords();
        rareWordOfAnOffNode();
        answers();
        disturbedTicks();
        firstDisturbedTick();
        failingAndComingAgain();
        countsOfNodes();
        edgesOfCounts();
        refusedDisturbs();
        alone();
        aloneAndDisturbed();
        otherNodeAsItBegins();
        offAndBack();
        offNodesDontComeNorHear();
        othersBecomeOff();
        refusedRuns();
        logOfForty();
        c.end();
    }

    private static void logIs(RankWire x, String name, int i, int word, int began, int ended, int time) {
        c.due("26: " + name + ": word", x.log(i, 0), word);
        c.due("26: " + name + ": began", x.log(i, 1), began);
        c.due("26: " + name + ": ended", x.log(i, 2), ended);
        c.due("26: " + name + ": time", x.log(i, 3), time);
    }

    private static void oneTimedWord() {
        RankWire x = Wires.withNodes(2);
        x.word(0, 5, 1, 400, 7);
        int size = x.size(0);
        c.due("24: run(7)", x.run(7), 0);
        c.due("25: not yet under way", x.count(3), NONE);
        c.due("25: free from the first tick", x.count(4), 0);
        c.due("24: run(1)", x.run(1), 0);
        c.due("25: under way", x.count(3), 0);
        c.due("25: not free", x.count(4), NONE);
        c.due("24: all but the last tick", x.run(size - 2), 0);
        c.due("25: still under way", x.count(3), 0);
        c.due("24: the last tick", x.run(1), 1);
        c.due("25: not under way", x.count(3), NONE);
        c.due("25: free from the 4th", x.count(4), 7 + size - 1 + 4);
        c.due("25: tick", x.count(0), 7 + size);
        logIs(x, "timed", 0, 0, 7, 7 + size - 1, size - 1);
        c.due("24: two times more", x.run(800), 2);
        logIs(x, "timed, the third time", 0, 0, 807, 807 + size - 1, size - 1);
        c.due("25: heard", x.count(1), 3);
        c.due("25: failed", x.count(2), 0);
        c.due("25: nodes", x.count(5), 2);
        c.due("25: words", x.count(6), 1);
        c.due("25: count(8)", x.count(8), RankWire.NO);
        c.due("25: count(-1)", x.count(-1), RankWire.NO);
    }

    private static void theFirstRankGoesOn() {
        RankWire x = Wires.withNodes(2);
        x.word(0, 9, 0, 1000, 0);
        x.word(1, 2048 + (8 << 18), 0, 1000, 0);
        x.word(0, 8, 0, 1000, 1);
        x.word(1, 2, 0, 1000, 400);
        int long1 = x.size(1);
        int first = x.size(2);
        x.run(300);
        logIs(x, "the LONG one of 8 goes ahead of 9", 2, 1, 0, long1 - 1, long1 - 1);
        int next = long1 - 1 + 4;
        logIs(x, "8 goes ahead of 9", 1, 2, next, next + first - 1, next + first - 1 - 1);
        next += first - 1 + 4;
        logIs(x, "9 at last", 0, 0, next, next + x.size(0) - 1, next + x.size(0) - 1);
        c.due("25: free", x.count(4), next + x.size(0) + 3);
    }

    private static void lossesWhileWaiting() {
        RankWire x = Wires.withNodes(2);
        x.word(0, 1, 8, 100, 0);
        x.word(1, 2, 0, 100, 1);
        x.value(0, 0x5555555555555555L);
        x.run(1002);
        c.due("8: it never began", x.of(1, 9), 0);
        c.due("8: losses, by (2) of each time but the first", x.of(1, 10), 10);
        c.due("8: it waits", x.of(1, 8), 1);
        x.rank(0, 3);
        int free = x.count(4);
        c.due("25: one is under way", free, NONE);
        x.run(300);
        c.due("8: it was heard", x.of(1, 9) > 0 ? 1 : 0, 1);
        c.due("8: its time is from when it came last", x.of(1, 11) < 200 ? 1 : 0, 1);
    }

    private static void comingWhileUnderWay() {
        RankWire x = Wires.withNodes(2);
        x.word(0, 1, 8, 100, 0);
        int size = x.size(0);
        x.run(101);
        c.due("8: under way, and it came again", x.of(0, 8), size > 100 ? 1 : 0);
        c.due("8: that is no loss", x.of(0, 10), 0);
        x.run(size + 4 + size - 101);
        logIs(x, "its second time", 0, 0, size + 3, 2 * size + 2, 2 * size + 2 - 100);
    }

    private static void valueAndRankAsItBegins() {
        RankWire x = Wires.withNodes(2);
        x.word(0, 5, 8, 1000, 0);
        x.value(0, 0x5555555555555555L);
        int size = x.size(0);
        x.run(1);
        x.value(0, 0);
        x.rank(0, 2048);
        c.due("8: another size now", x.size(0) == size ? 1 : 0, 0);
        c.due("24: its size as it began", x.run(size - 2), 0);
        c.due("24: its last tick", x.run(1), 1);
        RankWire y = Wires.withNodes(2);
        y.word(0, 5, 0, 1000, 0);
        y.word(0, 6, 0, 1000, 0);
        y.word(0, 7, 0, 1000, 0);
        y.run(1);
        y.rank(2, 0);
        y.run(150);
        c.due("7: the rank as it is then", y.log(1, 0), 2);
    }

    private static void toldLater() {
        RankWire x = Wires.withNodes(2);
        x.run(250);
        x.word(0, 5, 0, 100, 50);
        x.run(1);
        c.due("3: a time in the tick that is open", x.count(3), 0);
        RankWire y = Wires.withNodes(2);
        y.run(251);
        y.word(0, 5, 0, 100, 50);
        c.due("3: times ahead are left out", y.run(99), 0);
        c.due("25: none under way", y.count(3), NONE);
        y.run(1);
        c.due("25: its next time", y.count(3), 0);
        c.due("8: no losses", y.of(0, 10), 0);
        RankWire z = Wires.withNodes(2);
        z.run(10);
        z.word(0, 5, 0, 100, 50);
        z.run(41);
        c.due("3: FIRST is yet to come", z.count(3), 0);
    }

    private static void shakenTimes() {
        RankWire x = Wires.withNodes(2);
        x.word(0, 5, 10, 100, 10);
        c.due("4: late", x.late(0, 20), 0);
        int size = x.size(0);
        int[] later = {0, 7, 14, 0, 7};
        x.run(500);
        for (int k = 0; k < 5; k++) {
            int begin = 10 + 100 * k + later[k];
            logIs(x, "shaken, time " + k, 4 - k, 0, begin, begin + size - 1, later[k] + size - 1);
        }
        c.due("8: the greatest time", x.of(0, 11), 14 + size - 1);
    }

    private static void shakenTimesThatWaitForTheirTick() {
        RankWire x = Wires.withNodes(2);
        x.run(5000);
        x.run(5000);
        x.word(0, 5, 10, 100, 0);
        x.late(0, 1000);
        int size = x.size(0);
        c.due("4: k is counted from FIRST: 700 later", x.run(500), 0);
        c.due("8: doesn't wait", x.of(0, 8), 0);
        x.late(0, 0);
        x.run(1);
        c.due("4: by LATE as it is then", x.count(3), 0);
        x.run(1);
        c.due("8: one in a tick", x.of(0, 8), 1);
        c.due("8: no loss yet", x.of(0, 10), 0);
        for (int i = 1; i <= 6; i++) {
            x.run(1);
            c.due("8: one in a tick, " + i, x.of(0, 10), Math.min(i, 4));
        }
        x.run(2 * size);
        logIs(x, "the first of them", 1, 0, 10500, 10500 + size - 1, 500 + size - 1);
        logIs(x, "the last of them", 0, 0, 10500 + size + 3, 10500 + 2 * size + 2, 2 * size + 2);
        RankWire y = Wires.withNodes(2);
        y.word(0, 5, 10, 100, 0);
        y.run(80);
        y.late(0, 6);
        y.run(80);
        y.late(0, 1000);
        y.run(53);
        c.due("4: not ahead of its tick", y.count(3), NONE);
        y.run(2);
        c.due("4: 14 later", y.count(3), 0);
        c.due("8: its times", y.of(0, 9), 2);
    }

    private static void rareWords() {
        RankWire x = Wires.withNodes(2);
        x.word(0, 5, 20, 100, 3);
        x.word(0, 6, 0, 1000, 900);
        x.word(0, 7, 10, 1000, 900);
        x.word(0, 8, 30, 1000, 0);
        c.due("22: come(4)", x.come(4), RankWire.BEYOND);
        c.due("22: come(-1)", x.come(-1), RankWire.BEYOND);
        c.due("22: of a TIMED one", x.come(1), RankWire.KIND);
        c.due("22: of a SHAKEN one", x.come(2), RankWire.KIND);
        c.due("22: of an ASKED one", x.come(3), RankWire.KIND);
        x.run(50);
        c.due("22: it doesn't come by times", x.count(3), NONE);
        c.due("22: come(0)", x.come(0), 1);
        c.due("22: till then it doesn't WAIT", x.of(0, 8), 0);
        c.due("22: too soon", x.come(0), RankWire.NO);
        x.run(99);
        c.due("22: too soon by 1", x.come(0), RankWire.NO);
        c.due("8: heard once", x.of(0, 9), 1);
        x.run(1);
        c.due("22: T ticks behind the one before", x.come(0), 1);
        x.run(1);
        c.due("22: under way", x.count(3), 0);
        x.run(150);
        logIs(x, "by hand", 1, 0, 150, 150 + x.size(0) - 1, x.size(0) - 1);
        logIs(x, "its answer", 0, 3, 150 + x.size(0) + 3, 150 + x.size(0) + 3 + x.size(3) - 1, 2 + x.size(3));
        rareWordThatWaits();
    }

    private static void rareWordThatWaits() {
        RankWire x = Wires.withNodes(2);
        x.word(0, 1, 8, 100, 0);
        x.value(0, 0x5555555555555555L);
        x.word(0, 5, 20, 100, 0);
        x.run(1);
        x.come(1);
        x.run(100);
        c.due("8: it waits", x.of(1, 8), 1);
        c.due("22: come again", x.come(1), 1);
        c.due("22: no loss till (2)", x.of(1, 10), 0);
        x.run(1);
        c.due("8: a loss by (2)", x.of(1, 10), 1);
    }

    /** Node 0 alone, with a word of rank 0 at tick 0 and T = 100000: OFF in the tick that is answered, run up to there. */
    private static int untilOff(RankWire x) {
        x.node();
        x.word(0, 0, 0, 100000, 0);
        int size = x.size(0);
        int off = 31 * (size - 9 + 18) + size - 9;
        x.run(off);
        c.due("9: not OFF yet", x.about(0, 1), 1);
        x.run(1);
        c.due("9: OFF", x.about(0, 1), 2);
        return off;
    }

    private static void rareWordOfAnOffNode() {
        RankWire x = new RankWire();
        int off = untilOff(x);
        x.word(0, 5, 20, 100, 0);
        c.due("22: its node is OFF", x.come(1), RankWire.NO);
        x.run(1407);
        c.due("25: tick", x.count(0), off + 1408);
        c.due("22: it is OFF till (1)", x.come(1), RankWire.NO);
        x.run(1);
        c.due("22: a refused come() is none", x.come(1), 1);
    }

    private static void answers() {
        RankWire x = Wires.withNodes(3);
        x.word(0, 100, 0, 5000, 10);
        x.word(1, 90, 30, 100, 0);
        x.word(2, 80, 30, 100, 0);
        x.word(0, 70, 30, 100, 2);
        x.run(10 + x.size(0));
        c.due("3: they come in the next tick", x.of(1, 8) + x.of(2, 8), 0);
        x.run(1);
        c.due("3: they come", x.of(1, 8) + x.of(2, 8), 2);
        x.run(400);
        int heard = 10 + x.size(0) - 1;
        int second = heard + 4 + x.size(2) - 1;
        logIs(x, "the first answer", 2, 2, heard + 4, second, second - heard - 1);
        int third = second + 4 + x.size(3) - 1;
        logIs(x, "an answer to that", 1, 3, second + 4, third, third - second - 1);
        logIs(x, "the other answer", 0, 1, third + 4, third + 4 + x.size(1) - 1, third + 4 + x.size(1) - 1 - heard - 1);
        c.due("25: heard", x.count(1), 4);
        c.due("24: nothing more", x.run(4000), 0);
    }

    private static void disturbedTicks() {
        for (int where = 0; where < 3; where++) {
            RankWire x = Wires.withNodes(2);
            x.word(0, 5, 0, 1000, 20);
            int size = x.size(0);
            int at = 20 + (where == 0 ? 0 : where == 1 ? 17 : size - 1);
            c.due("23: disturb(" + at + ")", x.disturb(at), 1);
            x.run(at);
            c.due("25: none failed yet", x.count(2), 0);
            c.due("25: one is open or later", x.count(7), 1);
            x.run(1);
            c.due("25: failed", x.count(2), 1);
            c.due("25: none is open or later", x.count(7), 0);
            c.due("25: none under way", x.count(3), NONE);
            c.due("25: free from the 18th", x.count(4), at + 18);
            c.due("8: it waits again", x.of(0, 8), 1);
            c.due("9: of its node", x.about(0, 0), 8);
            c.due("9: of the other", x.about(1, 0), 1);
            c.due("9: failed", x.about(0, 2), 1);
            c.due("9: failed of the other", x.about(1, 2), 0);
            logIs(x, "failed", 0, 0, 20, at, NONE);
            c.due("24: heard then", x.run(18 + size), 1);
            logIs(x, "heard then", 0, 0, at + 18, at + 18 + size - 1, at + 18 + size - 1 - 20);
            c.due("9: 1 less", x.about(0, 0), 7);
            c.due("9: 1 less of the other", x.about(1, 0), 0);
            c.due("8: no loss", x.of(0, 10), 0);
        }
        RankWire y = Wires.withNodes(2);
        y.word(0, 5, 0, 1000, 20);
        y.disturb(19);
        y.disturb(20 + y.size(0));
        c.due("24: ticks beside the frame", y.run(200), 1);
        c.due("25: none failed", y.count(2), 0);
    }

    private static void firstDisturbedTick() {
        RankWire x = Wires.withNodes(2);
        x.word(0, 5, 0, 1000, 0);
        x.run(5);
        c.due("23: told while it is under way", x.disturb(30), 1);
        c.due("23: an earlier one", x.disturb(10), 2);
        c.due("23: between them", x.disturb(20), 3);
        x.run(100);
        c.due("25: two failed", x.count(2), 2);
        logIs(x, "the first one", 2, 0, 0, 10, NONE);
        logIs(x, "once more", 1, 0, 28, 30, NONE);
        x.disturb(x.count(0));
        c.due("23: the open one is told", x.count(7), 1);
    }

    private static void failingAndComingAgain() {
        RankWire x = Wires.withNodes(2);
        x.word(0, 1, 8, 100, 0);
        x.value(0, 0x5555555555555555L);
        int size = x.size(0);
        int at = size - 1;
        x.disturb(at);
        x.run(size);
        c.due("8: it came again meanwhile", x.of(0, 10), size > 100 ? 1 : 0);
        c.due("8: it waits", x.of(0, 8), 1);
        x.disturb(at + 18 + 3);
        x.run(18 + 4);
        c.due("8: it failed, and didn't come meanwhile", x.of(0, 10), 1);
        x.run(18 + size);
        int end = at + 18 + 3 + 18 + size - 1;
        c.due("26: its time is from then on", x.log(0, 3), end - 100);
    }

    private static void countsOfNodes() {
        RankWire x = Wires.withNodes(3);
        x.word(1, 5, 0, 100, 0);
        for (int i = 0; i < 17; i++) {
            x.disturb(19 * i);
        }
        x.run(19 * 17);
        c.due("9: of its node", x.about(1, 0), 136);
        c.due("9: QUIET", x.about(1, 1), 1);
        c.due("9: of another", x.about(0, 0), 17);
        c.due("9: of another", x.about(2, 0), 17);
        x.node();
        int more = x.run(1200);
        c.due("9: 1 less each", x.about(1, 0), 136 - more);
        c.due("9: 1 less each", x.about(0, 0), 17 - more);
        c.due("9: 0 at least", x.about(3, 0), 0);
        c.due("9: ACTIVE again", x.about(1, 1), 0);
    }

    private static void edgesOfCounts() {
        RankWire x = Wires.withNodes(2);
        x.word(0, 5, 20, 100, 0);
        x.come(0);
        for (int i = 0; i < 16; i++) {
            x.disturb(18 * i);
        }
        x.run(18 * 15 + 1);
        c.due("9: 128", x.about(0, 0), 128);
        c.due("9: QUIET at 128", x.about(0, 1), 1);
        x.run(100);
        c.due("9: 127", x.about(0, 0), 127);
        c.due("9: ACTIVE at 127", x.about(0, 1), 0);
        RankWire y = Wires.withNodes(2);
        y.word(0, 5, 20, 100, 0);
        y.word(1, 4, 20, 100, 0);
        y.come(0);
        for (int i = 0; i < 31 + 8; i++) {
            y.disturb(18 * i);
        }
        y.run(18 * 30 + 1);
        c.due("9: 248", y.about(0, 0), 248);
        y.come(1);
        y.run(18 * 7);
        c.due("9: 255", y.about(0, 0), 255);
        c.due("9: QUIET at 255", y.about(0, 1), 1);
        c.due("8: it waits", y.of(0, 8), 1);
        y.run(18);
        c.due("9: 256", y.about(0, 0), 256);
        c.due("9: OFF at 256", y.about(0, 1), 2);
        c.due("8: it doesn't wait", y.of(0, 8), 0);
        c.due("9: failed", y.about(0, 2), 31);
        c.due("9: failed of the other", y.about(1, 2), 8);
        c.due("9: of the other", y.about(1, 0), 31 + 64);
    }

    private static void refusedDisturbs() {
        RankWire x = new RankWire();
        c.due("23: disturb(-1)", x.disturb(-1), RankWire.NO);
        c.due("23: disturb(MIN)", x.disturb(Integer.MIN_VALUE), RankWire.NO);
        for (int i = 0; i < 60; i++) {
            c.due("23: disturb", x.disturb(59 - i), i + 1);
        }
        c.due("23: the 61st", x.disturb(60), RankWire.FULL);
        c.due("23: NO ahead of FULL", x.disturb(30), RankWire.NO);
        c.due("25: count(7)", x.count(7), 60);
        x.run(2);
        c.due("25: count(7)", x.count(7), 58);
        c.due("23: one that ran", x.disturb(1), RankWire.NO);
        c.due("23: one that is told", x.disturb(2), RankWire.NO);
        c.due("23: a far one", x.disturb(Integer.MAX_VALUE), 59);
        c.due("23: the far one again", x.disturb(Integer.MAX_VALUE), RankWire.NO);
        c.due("23: the last one", x.disturb(60), 60);
        c.due("23: no more", x.disturb(61), RankWire.FULL);
    }

    private static void alone() {
        RankWire x = Wires.withNodes(1);
        x.word(0, 5, 0, 1000, 4);
        int at = 4 + x.size(0) - 9;
        x.run(at);
        c.due("25: under way", x.count(3), 0);
        x.run(1);
        c.due("25: failed", x.count(2), 1);
        logIs(x, "alone", 0, 0, 4, at, NONE);
        c.due("25: free from the 18th", x.count(4), at + 18);
        c.due("9: 8 more", x.about(0, 0), 8);
    }

    private static void aloneAndDisturbed() {
        int[] beside = {-1, 0, 1};
        for (int by : beside) {
            RankWire x = Wires.withNodes(1);
            x.word(0, 5, 0, 1000, 0);
            int ninth = x.size(0) - 9;
            x.disturb(ninth + by);
            x.run(ninth + 2);
            c.due("24: the first of both", x.log(0, 2), Math.min(ninth, ninth + by));
            c.due("25: it failed once", x.count(2), 1);
        }
    }

    private static void otherNodeAsItBegins() {
        RankWire x = Wires.withNodes(1);
        x.word(0, 5, 0, 1000, 1);
        x.run(2);
        x.node();
        x.run(100);
        c.due("24: it was alone as it began", x.log(1, 3), NONE);
        c.due("24: then it was not", x.count(1), 1);
        c.due("9: the other has 1 more, then 1 less", x.about(1, 0), 0);
        c.due("9: it has 8 more, then 1 less", x.about(0, 0), 7);
        RankWire y = Wires.withNodes(1);
        y.word(0, 5, 0, 1000, 1);
        y.run(1);
        y.node();
        c.due("24: told ahead of its tick", y.run(100), 1);
        c.due("25: none failed", y.count(2), 0);
    }

    private static void offAndBack() {
        int size = 48;
        int off = 31 * (size + 9) + size - 9;
        // its second time is in the tick in which the node has COUNT 0 again
        RankWire x = Wires.withNodes(1);
        x.word(0, 0, 0, off + 1408, 3);
        c.due("10: size", x.size(0), size);
        x.run(3 + off);
        c.due("9: not OFF yet", x.about(0, 0), 248);
        x.run(1);
        c.due("9: OFF", x.about(0, 0), 256);
        c.due("8: it doesn't wait", x.of(0, 8), 0);
        x.run(1407);
        c.due("9: OFF still", x.about(0, 1), 2);
        x.run(1);
        c.due("9: COUNT 0 again", x.about(0, 0), 0);
        c.due("9: how many failed is kept", x.about(0, 2), 32);
        c.due("25: it came in that tick", x.count(3), 0);
        c.due("8: no loss", x.of(0, 10), 0);
        // one tick sooner that time is gone
        RankWire y = Wires.withNodes(1);
        y.word(0, 0, 0, off + 1407, 3);
        y.run(3 + off + 1409);
        c.due("25: it didn't come", y.count(3), NONE);
        c.due("8: it doesn't wait", y.of(0, 8), 0);
        y.run(off + 1408 - 3);
        c.due("25: it didn't come", y.count(3), NONE);
        y.run(1);
        c.due("25: its next time", y.count(3), 0);
        // it comes again while its last frame is under way
        RankWire z = Wires.withNodes(1);
        z.word(0, 0, 0, 31 * (size + 9) + 5, 0);
        z.run(off + 1);
        c.due("9: OFF", z.about(0, 1), 2);
        c.due("8: a loss", z.of(0, 10), 1);
        c.due("8: it doesn't wait", z.of(0, 8), 0);
    }

    private static void offNodesDontComeNorHear() {
        RankWire x = new RankWire();
        int off = untilOff(x);
        x.node();
        x.word(1, 10, 0, 100000, off + 30);
        x.word(0, 20, 30, 100, 1);
        x.run(29 + x.size(1) - 8);
        c.due("24: an OFF node is none that hears", x.log(0, 2), off + 30 + x.size(1) - 9);
        c.due("26: its word", x.log(0, 0), 1);
        c.due("9: the OFF one has no more", x.about(0, 0), 256);
        x.node();
        x.run(200);
        c.due("24: heard by another", x.of(1, 9), 1);
        c.due("9: the OFF one has no less", x.about(0, 0), 256);
        c.due("8: its word doesn't come as an answer", x.of(2, 8) + x.of(2, 9), 0);
        c.due("9: 8 more, 1 less", x.about(1, 0), 7);
        c.due("9: 0 at least", x.about(2, 0), 0);
    }

    private static void othersBecomeOff() {
        RankWire x = Wires.withNodes(10);
        for (int i = 0; i < 10; i++) {
            x.word(i, i, 20, 100, 0);
        }
        x.word(0, 50, 0, 100000, 0);
        x.run(200);
        c.due("24: heard", x.of(10, 9), 1);
        int fails = 0;
        while (x.about(0, 1) < 2 && fails < 200) {
            // the words take turns, so that each node has about as many from its own as from others
            int turn = fails % 9 + 1;
            x.come(turn);
            x.disturb(x.count(0));
            x.disturb(x.count(0) + 100);
            x.run(101);
            fails = x.count(2);
        }
        c.due("9: none of its frames failed", x.about(0, 2), 0);
        int others = 0;
        for (int i = 1; i < 10; i++) {
            others += x.about(i, 2);
        }
        c.due("9: those of the others did", others, x.count(2));
        waitsOfANodeThatBecomesOff();
    }

    /** A RARE word of node 0 waits behind those that fail, till the node becomes OFF by them. */
    private static void waitsOfANodeThatBecomesOff() {
        RankWire x = Wires.withNodes(2);
        x.word(0, 0, 0, 100000, 0);
        x.word(0, 9, 20, 100, 0);
        x.word(1, 8, 20, 100, 0);
        x.come(1);
        x.come(2);
        for (int i = 0; i < 32; i++) {
            x.disturb(19 * i);
        }
        x.run(31 * 19);
        c.due("8: both wait", x.of(1, 8) + x.of(2, 8), 2);
        c.due("9: of node 0", x.about(0, 0), 248);
        x.run(1);
        c.due("9: OFF", x.about(0, 1), 2);
        c.due("8: no word of it waits", x.of(0, 8) + x.of(1, 8), 0);
        c.due("8: that is no loss", x.of(0, 10) + x.of(1, 10), 0);
        c.due("8: one of the other does", x.of(2, 8), 1);
        x.run(18);
        c.due("25: and goes on", x.count(3), 2);
    }

    private static void refusedRuns() {
        RankWire x = new RankWire();
        c.due("24: run(0)", x.run(0), RankWire.NO);
        c.due("24: run(-1)", x.run(-1), RankWire.BELOW);
        c.due("24: run(MIN)", x.run(Integer.MIN_VALUE), RankWire.BELOW);
        c.due("24: run(5001)", x.run(5001), RankWire.NO);
        c.due("24: run(MAX)", x.run(Integer.MAX_VALUE), RankWire.NO);
        c.due("25: tick", x.count(0), 0);
        c.due("24: run(5000)", x.run(5000), 0);
        c.due("25: tick", x.count(0), 5000);
    }

    private static void logOfForty() {
        RankWire x = Wires.withNodes(2);
        x.word(0, 5, 0, 100, 0);
        int size = x.size(0);
        for (int i = 0; i < 45; i++) {
            c.due("26: not so many", x.log(i, 0), RankWire.BEYOND);
            c.due("24: heard", x.run(100), 1);
            c.due("26: the latest one", x.log(0, 1), 100 * i);
        }
        for (int i = 0; i < 40; i++) {
            logIs(x, "frame " + i, i, 0, 4400 - 100 * i, 4400 - 100 * i + size - 1, size - 1);
        }
        c.due("26: log(40, 0)", x.log(40, 0), RankWire.BEYOND);
        c.due("26: log(-1, 0)", x.log(-1, 0), RankWire.BEYOND);
        c.due("26: log(0, 4)", x.log(0, 4), RankWire.NO);
        c.due("26: log(0, -1)", x.log(0, -1), RankWire.NO);
        c.due("26: BEYOND ahead of NO", x.log(40, 4), RankWire.BEYOND);
    }
}
