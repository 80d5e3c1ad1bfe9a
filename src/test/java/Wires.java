/** New objects for tests to begin with. */
final class Wires {
    private Wires() {
    }

    static RankWire withNodes(int n) {
        RankWire x = new RankWire();
        for (int i = 0; i < n; i++) {
            x.node();
        }
        return x;
    }

    /** One node with one TIMED word of n bytes. */
    static RankWire withWord(int rank, int n, long value) {
        RankWire x = withNodes(1);
        x.word(0, rank, n, 100, 0);
        x.value(0, value);
        return x;
    }
}
