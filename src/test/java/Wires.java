/** New objects for tests to begin with, and long runs. */
final class Wires {
    static final int LAST_RANK = 2048 + (1 << 29) - 1;
    /** Of a FRAME of RANK 0 without BYTES: its 32 PLAIN BITS are all 0, 6 are stuffed, 10 are the TAIL. */
    static final int SIZE_OF_0 = 48;
    static final int LAST_OF_0 = SIZE_OF_0 - 1;
    /** Where it FAILS if no other node is there. */
    static final int NINTH_OF_0 = SIZE_OF_0 - 9;
    /** How many ticks behind its beginning a node whose frame of RANK 0 goes on failing alone becomes OFF. */
    static final int OFF_OF_0 = 31 * (NINTH_OF_0 + 18) + NINTH_OF_0;

    private Wires() {
    }

    static RankWire withNodes(int n) {
        RankWire x = new RankWire();
        for (int i = 0; i < n; i++) {
            x.node();
        }
        return x;
    }

    /** One node with one TIMED word of n bytes. */
    static RankWire withWord(int rank, int n, long value) {
        RankWire x = withNodes(1);
        x.word(0, rank, n, 100, 0);
        x.value(0, value);
        return x;
    }

    /** Two nodes, and a word of RANK 0 without bytes, of node 0. */
    static RankWire withWordOf0(int kind, int t, int first) {
        RankWire x = withNodes(2);
        x.word(0, 0, 10 * kind, t, first);
        return x;
    }

    /** One node, OFF since the tick that was just run: OFF_OF_0; its word of RANK 0 comes next in tick 100000. */
    static RankWire justOff() {
        RankWire x = withNodes(1);
        x.word(0, 0, 0, 100000, 0);
        x.run(OFF_OF_0 + 1);
        return x;
    }

    /** Runs until that tick is open. */
    static void runTo(RankWire x, int tick) {
        for (int left = tick - x.count(0); left > 0; left -= 5000) {
            x.run(Math.min(left, 5000));
        }
    }
}
