/** Promises 10 to 14, sentence by sentence: the bits of frames, and which rank goes ahead. */
public final class FramesTest {
    private static final int LAST_RANK = Wires.LAST_RANK;
    private static final String TAIL = "1011111111";
    private static final int[] NO_WORDS = {1, -1, Integer.MAX_VALUE, Integer.MIN_VALUE};

    public static void main(String[] args) {
        plainBitsOfRanks();
        plainBitsOfBytes();
        sums();
        noneStuffed();
        stuffed();
        stuffedOnesCount();
        stuffedBehindTheLast();
        tails();
        sizes();
        sizeNow();
        bits();
        sumAndStuffedNow();
        eachCallOfItsOwnWord();
        aheads();
        aheadOfItself();
        Edge.end();
    }

    /** All bits of word 0, as a text. */
    private static String frame(RankWire x) {
        StringBuilder all = new StringBuilder();
        for (int i = 0; i < x.size(0); i++) {
            all.append(x.bit(0, i));
        }
        return all.toString();
    }

    private static String frame(int rank, int n, long value) {
        return frame(Wires.withWord(rank, n, value));
    }

    /** The bits of a frame without its TAIL, those that are stuffed taken out. */
    private static String plain(String frame) {
        StringBuilder plain = new StringBuilder();
        int alike = 0;
        for (int i = 0; i < frame.length() - TAIL.length(); i++) {
            if (alike != 5) {
                plain.append(frame.charAt(i));
            }
            alike = alike != 5 && i > 0 && frame.charAt(i) == frame.charAt(i - 1) ? alike + 1 : 1;
        }
        return plain.toString();
    }

    private static void begins(Edge e, int rank, int n, long value, String bits) {
        String due = bits.replace(" ", "");
        String got = plain(frame(rank, n, value));
        e.due("RANK " + rank + ", " + n + " BYTES: how many PLAIN BITS", got.length(), due.length() + 15);
        e.due("RANK " + rank + ", " + n + " BYTES: " + got + " begins with " + due, got.startsWith(due) ? 1 : 0, 1);
    }

    private static void same(Edge e, String what, String got, String due) {
        e.due(what + ": " + got + " is " + due, got.equals(due.replace(" ", "")) ? 1 : 0, 1);
    }

    private static void plainBitsOfRanks() {
        Edge e = Edge.of(11, "PLAIN BITS of a FRAME: 0; of a SHORT RANK its 11 bits, the highest first, and 0");
        begins(e, 0, 0, 0, "0 00000000000 0 0000");
        begins(e, 1, 0, 0, "0 00000000001 0 0000");
        begins(e, 1024, 0, 0, "0 10000000000 0 0000");
        begins(e, 2047, 0, 0, "0 11111111111 0 0000");
        Edge l = Edge.of(11, "of a LONG one the 11 highest of its number's 29 bits, 1, the other 18");
        begins(l, 2048, 0, 0, "0 00000000000 1 000000000000000000 0000");
        begins(l, 2049, 0, 0, "0 00000000000 1 000000000000000001 0000");
        begins(l, 2048 + (1 << 18) - 1, 0, 0, "0 00000000000 1 111111111111111111 0000");
        begins(l, 2048 + (1 << 18), 0, 0, "0 00000000001 1 000000000000000000 0000");
        begins(l, 2048 + (1 << 28), 0, 0, "0 10000000000 1 000000000000000000 0000");
        begins(l, LAST_RANK, 0, 0, "0 11111111111 1 111111111111111111 0000");
    }

    private static void plainBitsOfBytes() {
        Edge e = Edge.of(11, "4 bits n, how many BYTES (0 .. 8); these, 8 bits each, the highest first");
        begins(e, 0x555, 0, -1, "0 10101010101 0 0000");
        begins(e, 0x555, 1, 0x81, "0 10101010101 0 0001 10000001");
        begins(e, 0x555, 2, 0x0180, "0 10101010101 0 0010 00000001 10000000");
        begins(e, 0x555, 7, 0x01020408102040L,
            "0 10101010101 0 0111 00000001 00000010 00000100 00001000 00010000 00100000 01000000");
        begins(e, 0x555, 8, 0x8001020408102041L,
            "0 10101010101 0 1000 10000000 00000001 00000010 00000100 00001000 00010000 00100000 01000001");
        Edge lowest = Edge.of(11, "VALUE (a long: its lowest n bytes, the highest first)");
        begins(lowest, 0x555, 1, 0x7FFFFFFFFFFFFF00L, "0 10101010101 0 0001 00000000");
        begins(lowest, 0x555, 2, 0xFF55AAL, "0 10101010101 0 0010 01010101 10101010");
        begins(lowest, 0x555, 8, -1, "0 10101010101 0 1000 " + "11111111".repeat(8));
    }

    private static void sums() {
        Edge e = Edge.of(12, "a SUM of 15 bits: the rest of all PLAIN BITS before it");
        int[][] due = {{0, 0, 0}, {2047, 0, 23137}, {2048, 0, 1982}, {LAST_RANK, 0, 5891}, {5, 1, 4322}, {14, 0, 5616}, {92, 0, 21023}};
        for (int[] one : due) {
            RankWire x = Wires.withWord(one[0], one[1], 0);
            e.due("RANK " + one[0], x.sum(0), one[2]);
        }
        e.due("8 BYTES of 1s", Wires.withWord(2047, 8, -1).sum(0), 32023);
        Edge polynomial = Edge.of(12, "by x^15 + x^14 + x^10 + x^8 + x^7 + x^4 + x^3 + 1, over bits, its highest first");
        for (int rank = 1; rank < 3000; rank += 37) {
            RankWire x = Wires.withWord(rank, rank % 9, 0x123456789ABCDEFL * rank);
            String plain = plain(frame(x));
            int end = plain.length() - 15;
            polynomial.due("RANK " + rank, x.sum(0), PlainModel.rest(plain.substring(0, end)));
            polynomial.due("RANK " + rank + ", its bits", Integer.parseInt(plain.substring(end), 2), x.sum(0));
        }
    }

    private static void noneStuffed() {
        Edge e = Edge.of(13, "STUFFED: behind each five bits that are alike");
        // four alike at its beginning, in its midst, and 1s and 0s at its end: that is not enough
        same(e, "four at its end", frame(133, 1, 13), "0000100001010000100001101001101010010000" + TAIL);
        same(e, "four 1s, ahead of the TAIL's 1", frame(133, 1, 17), "0000100001010000100010001001101111001111" + TAIL);
        e.due("how many", Wires.withWord(133, 1, 13).stuffed(0), 0);
        e.due("how many", Wires.withWord(133, 1, 17).stuffed(0), 0);
    }

    private static void stuffed() {
        Edge e = Edge.of(13, "one behind the other (stuffed ones count, too), one that is not comes");
        same(e, "0s alone", frame(0, 0, 0), "00000 1 00000 1 00000 1 00000 1 00000 1 00000 1 00" + TAIL);
        e.due("how many", Wires.withWord(0, 0, 0).stuffed(0), 6);
        same(e, "1s from the second bit on", frame(2047, 0, 0), "0 11111 0 11111 0 1 00000 1 1011010011000011" + "011111111");
        e.due("how many", Wires.withWord(2047, 0, 0).stuffed(0), 3);
        // the first 0 is one of the five
        same(e, "four 0s behind it", frame(0x40, 0, 0).substring(0, 8), "0 0000 1 1 0");
        same(e, "of a rank that begins with 1", frame(0x400, 0, 0).substring(0, 9), "0 1 00000 1 0");
    }

    private static void stuffedOnesCount() {
        Edge e = Edge.of(13, "(stuffed ones count, too)");
        same(e, "a stuffed 1 and four 1s", frame(0, 1, 65), "00000 1 00000 1 00000 1 010 1 00000 1 1111 0 001001111010" + TAIL);
        e.due("how many", Wires.withWord(0, 1, 65).stuffed(0), 5);
        same(e, "a stuffed 0 and four 0s", frame(0, 1, 32), "00000 1 00000 1 00000 1 01 00 1 00000 1 00 11111 0 0000 1 1000" + TAIL);
        e.due("how many", Wires.withWord(0, 1, 32).stuffed(0), 6);
    }

    private static void stuffedBehindTheLast() {
        Edge e = Edge.of(13, "behind the last bit, too.");
        same(e, "the SUM ends with five 0s", frame(36, 0, 0), "00000 1 01001 00000 1 00 11111 0 0000 1 1 00000 1" + TAIL);
        e.due("how many", Wires.withWord(36, 0, 0).stuffed(0), 5);
        same(e, "with a stuffed 0 and four 0s", frame(14, 0, 0), "00000 1 000111 00000 1 0001010 11111 0 0000 1" + TAIL);
        e.due("how many", Wires.withWord(14, 0, 0).stuffed(0), 4);
        same(e, "with five 1s", frame(92, 0, 0), "00000 1 10111 00000 1 001010010000 11111 0" + TAIL);
        e.due("how many", Wires.withWord(92, 0, 0).stuffed(0), 3);
    }

    private static void tails() {
        Edge e = Edge.of(11, "Then a TAIL: 1, 0, 1, and seven times 1.");
        int[] ranks = {0, 14, 92, 133, 2047, 2048, LAST_RANK};
        for (int rank : ranks) {
            String frame = frame(rank, 0, 0);
            same(e, "of RANK " + rank, frame.substring(frame.length() - 10), "1 0 1 1111111");
        }
    }

    private static void sizes() {
        Edge e = Edge.of(10, "SIZE of a FRAME is how many bits these are in all.");
        e.due("of RANK 0", Wires.withWord(0, 0, 0).size(0), 32 + 6 + 10);
        e.due("none stuffed", Wires.withWord(133, 1, 13).size(0), 40 + 10);
        e.due("one stuffed behind the last", Wires.withWord(14, 0, 0).size(0), 32 + 4 + 10);
        for (int n = 0; n <= 8; n++) {
            RankWire x = Wires.withWord(3, n, 0x5A5A5A5A5A5A5A5AL);
            e.due("SHORT, " + n, x.size(0) - x.stuffed(0), 32 + 8 * n + 10);
            RankWire y = Wires.withWord(3000, n, 0x5A5A5A5A5A5A5A5AL);
            e.due("LONG, " + n, y.size(0) - y.stuffed(0), 50 + 8 * n + 10);
        }
        // nearly as many stuffed as there can be
        e.due("of many stuffed", Wires.withWord(LAST_RANK, 8, 0x3C3C3C3C3C3C3C3CL).size(0), 146);
    }

    private static void sizeNow() {
        Edge e = Edge.of(10, "SIZE of the FRAME of a WORD now. BEYOND.");
        RankWire x = Wires.withWord(0, 0, 0);
        e.due("size(0)", x.size(0), 48);
        x.rank(0, 2047);
        e.due("of another RANK", x.size(0), 45);
        RankWire y = Wires.withWord(5, 1, 0);
        e.due("size(0)", y.size(0), 53);
        y.rank(0, 133);
        y.value(0, 13);
        e.due("of another VALUE", y.size(0), 50);
        for (int w : NO_WORDS) {
            e.due("size(" + w + ")", x.size(w), RankWire.BEYOND);
        }
        e.due("without words", new RankWire().size(0), RankWire.BEYOND);
    }

    private static void bits() {
        Edge e = Edge.of(11, "Bit i of it, from 0; NONE: it has not so many. BEYOND, BELOW.");
        RankWire x = Wires.withWord(2047, 0, 0);
        e.due("the first", x.bit(0, 0), 0);
        e.due("the second", x.bit(0, 1), 1);
        e.due("the last", x.bit(0, 44), 1);
        e.due("behind the last", x.bit(0, 45), RankWire.NONE);
        e.due("far behind", x.bit(0, Integer.MAX_VALUE), RankWire.NONE);
        for (int by = RankWire.SAME; by <= RankWire.MISSING; by++) {
            e.due("NONE is no refusal", x.status(by), 0);
        }
        e.due("below", x.bit(0, -1), RankWire.BELOW);
        e.due("far below", x.bit(0, Integer.MIN_VALUE), RankWire.BELOW);
        for (int w : NO_WORDS) {
            e.due("bit(" + w + ", 0)", x.bit(w, 0), RankWire.BEYOND);
            e.due("BEYOND ahead of BELOW", x.bit(w, -1), RankWire.BEYOND);
        }
        // a longer frame that was looked at before leaves nothing behind the shorter one
        x.word(0, LAST_RANK, 8, 100, 0);
        x.size(1);
        e.due("behind the last, as before", x.bit(0, 45), RankWire.NONE);
    }

    private static void sumAndStuffedNow() {
        Edge sum = Edge.of(12, "Its SUM. BEYOND.");
        Edge stuffed = Edge.of(13, "How many bits are stuffed in it. BEYOND.");
        RankWire x = Wires.withWord(133, 1, 13);
        sum.due("sum(0)", x.sum(0), 6800);
        stuffed.due("stuffed(0)", x.stuffed(0), 0);
        x.rank(0, 5);
        x.value(0, 0);
        sum.due("now", x.sum(0), 4322);
        stuffed.due("now", x.stuffed(0), 3);
        x.value(0, 0x7700);
        sum.due("above its BYTES it may be another", x.sum(0), 4322);
        for (int w : NO_WORDS) {
            sum.due("sum(" + w + ")", x.sum(w), RankWire.BEYOND);
            stuffed.due("stuffed(" + w + ")", x.stuffed(w), RankWire.BEYOND);
        }
    }

    private static void eachCallOfItsOwnWord() {
        Edge e = Edge.of(10, "SIZE of the FRAME of a WORD now.");
        RankWire x = Wires.withWord(0, 0, 0);
        x.word(0, 2047, 0, 100, 0);
        int[][] due = {{48, 0, 0, 6}, {45, 1, 23137, 3}};
        for (int i = 0; i < 10; i++) {
            int w = i % 2;
            e.due("size(" + w + ")", x.size(w), due[w][0]);
            e.due("bit(" + (1 - w) + ", 1)", x.bit(1 - w, 1), due[1 - w][1]);
            e.due("sum(" + w + ")", x.sum(w), due[w][2]);
            e.due("stuffed(" + (1 - w) + ")", x.stuffed(1 - w), due[1 - w][3]);
        }
    }

    private static void aheads() {
        Edge e = Edge.of(14, "12 of a SHORT, 30 of a LONG one) have a 0 where they first differ.");
        // from the one that goes ahead of all to the last one: 2048 is a LONG one of the same 11 bits as 0
        int[] ranks = {0, 2048, 2049, 2048 + (1 << 17), 2048 + (1 << 18) - 1, 1, 2048 + (1 << 18), 2, 1023, 1024,
            2048 + (1 << 28), 2046, 2047, LAST_RANK - 1, LAST_RANK};
        RankWire x = Wires.withNodes(1);
        for (int rank : ranks) {
            x.word(0, rank, 0, 100, 0);
        }
        for (int i = 0; i < ranks.length; i++) {
            for (int k = 0; k < ranks.length; k++) {
                e.due("RANKS " + ranks[i] + " and " + ranks[k], x.ahead(i, k), Math.min(i, k));
            }
        }
    }

    private static void aheadOfItself() {
        Edge e = Edge.of(14, "Which of two WORDS goes AHEAD (one with itself: that). BEYOND.");
        RankWire x = Wires.withWord(5, 1, 0);
        e.due("one with itself", x.ahead(0, 0), 0);
        x.word(0, 3, 0, 100, 0);
        e.due("the other with itself", x.ahead(1, 1), 1);
        e.due("ahead(0, 1)", x.ahead(0, 1), 1);
        x.rank(0, 2);
        e.due("by RANKS as they are now", x.ahead(0, 1), 0);
        int[] none = {2, -1, Integer.MAX_VALUE, Integer.MIN_VALUE};
        for (int w : none) {
            e.due("ahead(" + w + ", 0)", x.ahead(w, 0), RankWire.BEYOND);
            e.due("ahead(0, " + w + ")", x.ahead(0, w), RankWire.BEYOND);
            e.due("ahead(" + w + ", " + w + ")", x.ahead(w, w), RankWire.BEYOND);
        }
    }
}
