/** Promises 15 to 21: the tape, and reading it. */
public final class TapeTest {
    private static final Check c = new Check();
    private static final int NONE = RankWire.NONE;

    public static void main(String[] args) {
        feeds();
        lays();
        bends();
        wipes();
        wholeFrames();
        refusedReads();
        faultAtFirstBit();
        faultOfStuffedBits();
        faultOfCount();
        faultOfSum();
        faultOfTail();
        endOfTape();
        bytesThatWereWhole();
        c.end();
    }

    private static RankWire withTape(String bits) {
        RankWire x = new RankWire();
        for (char bit : bits.replace(" ", "").toCharArray()) {
            x.feed(bit - '0', 1);
        }
        return x;
    }

    /** What a read answers, and told(0 .. 4) and bytes() behind it. */
    private static void reads(String name, RankWire x, int from, int fault, int... told) {
        c.due("19: " + name + ": read(" + from + ")", x.read(from), fault);
        for (int i = 0; i < 5; i++) {
            c.due("20: " + name + ": told(" + i + ")", x.told(i), told[i]);
        }
        c.due("21: " + name + ": bytes()", x.bytes(), told[5]);
    }

    private static void feeds() {
        RankWire x = new RankWire();
        c.due("15: feed(-1, 0)", x.feed(-1, 0), 0);
        c.due("15: feed(-5, 3)", x.feed(-5, 3), 3);
        int[] lowest = {0, 1, 1};
        for (int i = 0; i < 3; i++) {
            c.due("15: the highest of the lowest first", x.bend(i), 1 - lowest[i]);
        }
        c.due("15: feed(1, 32)", x.feed(1, 32), 35);
        c.due("15: its highest", x.bend(3), 1);
        c.due("15: its lowest", x.bend(34), 0);
        c.due("15: feed(MIN, 32)", x.feed(Integer.MIN_VALUE, 32), 67);
        c.due("15: its highest", x.bend(35), 0);
        c.due("15: feed(0, 33)", x.feed(0, 33), RankWire.NO);
        c.due("15: feed(0, MAX)", x.feed(0, Integer.MAX_VALUE), RankWire.NO);
        c.due("15: feed(0, -1)", x.feed(0, -1), RankWire.BELOW);
        c.due("15: feed(0, MIN)", x.feed(0, Integer.MIN_VALUE), RankWire.BELOW);
        x.wipe();
        for (int i = 1; i <= 62; i++) {
            c.due("15: feed", x.feed(i, 32), 32 * i);
        }
        c.due("15: one too many", x.feed(0, 17), RankWire.FULL);
        c.due("15: just so many", x.feed(0, 16), 2000);
        c.due("15: none more", x.feed(0, 0), 2000);
        c.due("15: one more", x.feed(0, 1), RankWire.FULL);
        c.due("15: NO ahead of FULL", x.feed(0, 33), RankWire.NO);
        c.due("15: read(2000)", x.read(2000), 6);
    }

    private static void lays() {
        RankWire x = Wires.withWord(5, 1, 0);
        int size = x.size(0);
        c.due("16: lay(1)", x.lay(1), RankWire.BEYOND);
        c.due("16: lay(-1)", x.lay(-1), RankWire.BEYOND);
        int had = 0;
        while (had + size <= 2000) {
            had += size;
            c.due("16: lay(0)", x.lay(0), had);
        }
        c.due("16: lay(0), no room", x.lay(0), RankWire.FULL);
        c.due("16: BEYOND ahead of FULL", x.lay(1), RankWire.BEYOND);
        c.due("16: what is left is as it was", x.feed(0, 0), had);
        for (int at = 0; at < had; at += size) {
            c.due("16: each can be read", x.read(at), 0);
            c.due("16: up to behind it", x.told(0), at + size);
        }
        x.wipe();
        while (2000 - x.feed(0, 0) - 32 >= size) {
            x.feed(0, 32);
        }
        x.feed(0, 2000 - x.feed(0, 0) - size);
        c.due("16: just so much room", x.lay(0), 2000);
        c.due("16: read there", x.read(2000 - size), 0);
    }

    private static void bends() {
        RankWire x = withTape("01");
        c.due("17: bend(0)", x.bend(0), 1);
        c.due("17: bend(0) again", x.bend(0), 0);
        c.due("17: bend(1)", x.bend(1), 0);
        c.due("17: bend(2)", x.bend(2), RankWire.BEYOND);
        c.due("17: bend(-1)", x.bend(-1), RankWire.BEYOND);
        c.due("17: bend(MAX)", x.bend(Integer.MAX_VALUE), RankWire.BEYOND);
        c.due("17: bend(MIN)", x.bend(Integer.MIN_VALUE), RankWire.BEYOND);
    }

    private static void wipes() {
        RankWire x = withTape("0110");
        c.due("18: wipe()", x.wipe(), 4);
        c.due("18: wipe() again", x.wipe(), 0);
        c.due("18: bend(0)", x.bend(0), RankWire.BEYOND);
        c.due("18: feed(1, 1)", x.feed(1, 1), 1);
        c.due("18: told is not wiped", x.read(0), 1);
        x.wipe();
        c.due("18: told(0)", x.told(0), 0);
    }

    private static void wholeFrames() {
        RankWire x = Wires.withWord(5, 1, 0x9C);
        x.word(0, 2048 + 77777777, 8, 100, 0);
        x.value(1, 0x8001020304050607L);
        x.feed(0x5, 3);
        x.lay(0);
        x.lay(1);
        int first = 3 + x.size(0);
        reads("a SHORT one", x, 3, 0, first, 5, 1, x.stuffed(0), x.sum(0), 0x9C);
        c.due("19: a LONG one", x.read(first), 0);
        int[] told = {first + x.size(1), 2048 + 77777777, 8, x.stuffed(1), x.sum(1)};
        for (int i = 0; i < told.length; i++) {
            c.due("20: a LONG one: told(" + i + ")", x.told(i), told[i]);
        }
        c.due("21: a LONG one: bytes()", x.bytes(), 0x8001020304050607L);
        RankWire y = Wires.withWord(14, 0, 0);
        y.lay(0);
        reads("one stuffed behind the last", y, 0, 0, 46, 14, 0, 4, 5616, 0);
        RankWire z = Wires.withWord(0, 0, 0);
        z.lay(0);
        reads("rank 0", z, 0, 0, 48, 0, 0, 6, 0, 0);
    }

    private static void refusedReads() {
        RankWire x = withTape("1000");
        c.due("20: told(0), none read", x.told(0), RankWire.MISSING);
        c.due("20: NO ahead of MISSING", x.told(5), RankWire.NO);
        c.due("20: told(-1)", x.told(-1), RankWire.NO);
        c.due("21: bytes(), none read", x.bytes(), 0);
        c.due("19: read(-1)", x.read(-1), RankWire.BEYOND);
        c.due("19: read(5)", x.read(5), RankWire.BEYOND);
        c.due("19: read(MIN)", x.read(Integer.MIN_VALUE), RankWire.BEYOND);
        c.due("19: read(MAX)", x.read(Integer.MAX_VALUE), RankWire.BEYOND);
        c.due("20: a refused one is none", x.told(0), RankWire.MISSING);
        c.due("19: read(4)", x.read(4), 6);
        c.due("20: told(5)", x.told(5), RankWire.NO);
        c.due("20: told(4)", x.told(4), NONE);
    }

    private static void faultAtFirstBit() {
        reads("a 1 at first", withTape("0111"), 1, 1, 1, NONE, NONE, 0, NONE, 0);
        reads("a 1 at first and last", withTape("1"), 0, 1, 0, NONE, NONE, 0, NONE, 0);
    }

    private static void faultOfStuffedBits() {
        reads("six 0", withTape("000000"), 0, 2, 5, NONE, NONE, 0, NONE, 0);
        reads("six 0 behind others", withTape("11 000000"), 2, 2, 7, NONE, NONE, 0, NONE, 0);
        // bits ahead of the place where the read begins don't count
        reads("five 0 in all", withTape("0000 0 0 1"), 4, 6, 7, NONE, NONE, 0, NONE, 0);
        reads("six 1", withTape("0 111111"), 0, 2, 6, NONE, NONE, 0, NONE, 0);
        reads("a stuffed one counts", withTape("00000 1 1111 1"), 0, 2, 10, NONE, NONE, 1, NONE, 0);
        reads("a stuffed one counts, as it must be", withTape("00000 1 1111 0"), 0, 6, 11, NONE, NONE, 2, NONE, 0);
        reads("behind a rank", withTape("0 10101010000 0 0"), 0, 2, 13, 0x550, NONE, 0, NONE, 0);
        reads("behind n", withTape("0 10101010101 0 0000 0"), 0, 2, 17, 0x555, 0, 0, NONE, 0);
        reads("behind a byte", withTape("0 10101010101 0 0010 11100000 0"), 0, 2, 25, 0x555, 2, 0, NONE, 0xE0);
        RankWire x = Wires.withWord(14, 0, 0);
        x.lay(0);
        x.bend(35);
        reads("behind the SUM", x, 0, 2, 35, 14, 0, 3, 5616, 0);
    }

    private static void faultOfCount() {
        reads("n = 9", withTape("0 10101010101 0 1001 0000"), 0, 3, 16, 0x555, 9, 0, NONE, 0);
        reads("n = 15", withTape("0 10101010101 0 1111"), 0, 3, 16, 0x555, 15, 0, NONE, 0);
        // ahead of looking for a stuffed bit behind it
        reads("n = 15 of a LONG rank", withTape("0 10101010101 1 010101010101010101 1111 1"), 0, 3, 34,
            2048 + Integer.parseInt("10101010101010101010101010101", 2), 15, 0, NONE, 0);
        reads("n = 8", withTape("0 10101010101 0 1000"), 0, 6, 17, 0x555, 8, 0, NONE, 0);
    }

    private static void faultOfSum() {
        RankWire x = Wires.withWord(0x555, 2, 0xA5F0);
        x.lay(0);
        x.bend(50);
        reads("the last bit of the SUM", x, 0, 4, 50, 0x555, 2, 3, 28685, 0xA5F0);
        // ahead of looking for a stuffed bit behind it
        reads("five alike at its end", withTape("0 10101010101 0 0001 01010101 1010101011 00000 0"), 0, 4, 39,
            0x555, 1, 0, Integer.parseInt("101010101100000", 2), 0x55);
        RankWire y = Wires.withWord(0x555, 2, 0xA5F0);
        y.lay(0);
        y.bend(1);
        reads("a bit of the rank", y, 0, 4, 50, 0x155, 2, 3, 28684, 0xA5F0);
    }

    private static void faultOfTail() {
        int[][] words = {{0x555, 2, 0xA5F0, 61, 3, 28684}, {14, 0, 0, 46, 4, 5616}};
        for (int[] word : words) {
            RankWire x = Wires.withWord(word[0], word[1], word[2]);
            int size = x.lay(0);
            for (int at = size - 10; at < size; at++) {
                c.due("17: bend(" + at + ")", x.bend(at), at == size - 9 ? 1 : 0);
                reads("a bit of the TAIL", x, 0, 5, at, word[0], word[1], word[4], word[5], word[2]);
                x.bend(at);
            }
            reads("as it was", x, 0, 0, word[3], word[0], word[1], word[4], word[5], word[2]);
        }
    }

    private static void endOfTape() {
        RankWire whole = Wires.withWord(14, 1, 0x1F);
        int size = whole.size(0);
        RankWire x = new RankWire();
        for (int i = 0; i < size; i++) {
            c.due("19: " + i + " bits of a frame", x.read(0), 6);
            c.due("20: it ends there", x.told(0), i);
            x.feed(whole.bit(0, i), 1);
        }
        c.due("19: all of it", x.read(0), 0);
        c.due("19: behind it", x.read(size), 6);
        c.due("20: behind it", x.told(0), size);
        c.due("20: RANK didn't come", x.told(1), NONE);
        reads("11 bits of a rank", withTape("0 10101010101"), 0, 6, 12, NONE, NONE, 0, NONE, 0);
        reads("a SHORT rank", withTape("0 10101010101 0"), 0, 6, 13, 0x555, NONE, 0, NONE, 0);
        reads("17 more of a LONG one", withTape("0 10101010101 1 01010101010101010"), 0, 6, 30, NONE, NONE, 0, NONE, 0);
        reads("3 bits of n", withTape("0 10101010101 0 010"), 0, 6, 16, 0x555, NONE, 0, NONE, 0);
        reads("n", withTape("0 10101010101 0 0101"), 0, 6, 17, 0x555, 5, 0, NONE, 0);
        reads("14 bits of the SUM", withTape("0 10101010101 0 0001 01010101 10101010101010"), 0, 6, 39,
            0x555, 1, 0, NONE, 0x55);
    }

    private static void bytesThatWereWhole() {
        String start = "0 10101010101 0 0011 ";
        reads("7 bits", withTape(start + "0101010"), 0, 6, 24, 0x555, 3, 0, NONE, 0);
        reads("a byte", withTape(start + "01010101"), 0, 6, 25, 0x555, 3, 0, NONE, 0x55);
        reads("15 bits", withTape(start + "01010101 1010101"), 0, 6, 32, 0x555, 3, 0, NONE, 0x55);
        reads("two bytes", withTape(start + "01010101 10101010"), 0, 6, 33, 0x555, 3, 0, NONE, 0x55AA);
        RankWire x = Wires.withWord(5, 1, 0xFF);
        x.lay(0);
        x.read(0);
        c.due("21: bytes()", x.bytes(), 0xFF);
        x.read(x.size(0));
        c.due("21: 0 without", x.bytes(), 0);
    }
}
