/** Promises 10 to 14: the bits of frames, and which rank goes ahead. */
public final class FramesTest {
    private static final Check c = new Check();
    private static final int LAST_RANK = 2048 + (1 << 29) - 1;

    public static void main(String[] args) {
        frame(0, 0, 0, 0, 6, "000001000001000001000001000001000001001011111111");
        frame(2047, 0, 0, 23137, 3, "011111011111010000011011010011000011011111111");
        frame(2048, 0, 0, 1982, 8, "00000100000100100000100000100000100000100000101111011111001011111111");
        frame(LAST_RANK, 0, 0, 5891, 8, "01111101111101111101111101111101111100000100101110000010111011111111");
        frame(5, 1, 0, 4322, 3, "00000100001010000100000100000110000111000101011111111");
        frame(0x555, 2, 0xA5F0L, 28684, 3, "0101010101010001010100101111100000111100000100011001011111111");
        frame(2048 + 123456789, 3, 0x010203L, 16767, 6,
            "000111010110111110001101000101010011000001001000001010000010011100000110111110111011111111");
        // stuffed behind the last bit of the SUM, once a 1 and once a 0
        frame(14, 0, 0, 5616, 4, "0000010001110000010001010111110000011011111111");
        frame(92, 0, 0, 21023, 3, "000001101110000010010100100001111101011111111");
        // only the lowest n bytes of the VALUE are sent
        frame(5, 1, 0x7700L, 4322, 3, "00000100001010000100000100000110000111000101011111111");
        frame(2047, 8, -1L, 32023, 15, "011111011111010100011111011111011111011111011111011111011111011111"
            + "0111110111110111110111110111110111101000101111011111111");
        valueAndRankNow();
        eachCallOfItsOwnWord();
        refusals();
        aheads();
        c.end();
    }

    private static void frame(int rank, int n, long value, int sum, int stuffed, String bits) {
        RankWire x = Wires.withWord(rank, n, value);
        String of = " of rank " + rank + " with " + n + " bytes";
        c.due("10: size" + of, x.size(0), bits.length());
        for (int i = 0; i < bits.length(); i++) {
            c.due("11: bit " + i + of, x.bit(0, i), bits.charAt(i) - '0');
        }
        c.due("11: bit behind the last" + of, x.bit(0, bits.length()), RankWire.NONE);
        c.due("11: bit far behind" + of, x.bit(0, Integer.MAX_VALUE), RankWire.NONE);
        c.due("12: sum" + of, x.sum(0), sum);
        c.due("13: stuffed" + of, x.stuffed(0), stuffed);
    }

    private static void valueAndRankNow() {
        RankWire x = Wires.withWord(5, 1, 0xFF);
        c.due("12: sum of another value", x.sum(0) == 4322 ? 1 : 0, 0);
        x.value(0, 0);
        c.due("12: sum now", x.sum(0), 4322);
        x.rank(0, 2048);
        c.due("10: of a LONG rank", x.size(0) - x.stuffed(0), 50 + 8 + 10);
    }

    private static void eachCallOfItsOwnWord() {
        RankWire x = Wires.withWord(0, 0, 0);
        x.word(0, 2047, 0, 100, 0);
        int[][] due = {{48, 0, 0, 6}, {45, 1, 23137, 3}};
        for (int i = 0; i < 10; i++) {
            int w = i % 2;
            c.due("10: size(" + w + ")", x.size(w), due[w][0]);
            c.due("11: bit(" + (1 - w) + ", 1)", x.bit(1 - w, 1), due[1 - w][1]);
            c.due("12: sum(" + w + ")", x.sum(w), due[w][2]);
            c.due("13: stuffed(" + (1 - w) + ")", x.stuffed(1 - w), due[1 - w][3]);
        }
    }

    private static void refusals() {
        RankWire x = Wires.withWord(5, 1, 0);
        int[] none = {1, -1, Integer.MAX_VALUE, Integer.MIN_VALUE};
        for (int w : none) {
            c.due("10: size(" + w + ")", x.size(w), RankWire.BEYOND);
            c.due("11: bit(" + w + ", -1)", x.bit(w, -1), RankWire.BEYOND);
            c.due("12: sum(" + w + ")", x.sum(w), RankWire.BEYOND);
            c.due("13: stuffed(" + w + ")", x.stuffed(w), RankWire.BEYOND);
            c.due("14: ahead(" + w + ", 0)", x.ahead(w, 0), RankWire.BEYOND);
            c.due("14: ahead(0, " + w + ")", x.ahead(0, w), RankWire.BEYOND);
        }
        c.due("11: bit(0, -1)", x.bit(0, -1), RankWire.BELOW);
    }

    private static void aheads() {
        // from the first one of all to the last one
        int[] ranks = {0, 2048, 2049, 2048 + (1 << 18) - 1, 1, 2048 + (1 << 18), 2, 2046, 2047, LAST_RANK - 1, LAST_RANK};
        RankWire x = new RankWire();
        x.node();
        for (int i = 0; i < ranks.length; i++) {
            x.word(0, ranks[i], 0, 100, 0);
        }
        for (int i = 0; i < ranks.length; i++) {
            for (int k = 0; k < ranks.length; k++) {
                c.due("14: ahead(" + ranks[i] + ", " + ranks[k] + ")", x.ahead(i, k), Math.min(i, k));
            }
        }
    }
}
