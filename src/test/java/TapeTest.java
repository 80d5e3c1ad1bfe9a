/** Promises 15 to 21, sentence by sentence: the tape, and reading it. */
public final class TapeTest {
    private static final int NONE = RankWire.NONE;
    /** The beginning of a FRAME in which no five bits are alike, up to its RANK 0x555. */
    private static final String START = "0 10101010101 0 ";

    public static void main(String[] args) {
        feeds();
        feedRefused();
        tapeIsFullByFeed();
        tapeIsFullByLay();
        lays();
        bends();
        wipes();
        wholeFrames();
        readBeyond();
        faultOfTheFirstBit();
        faultBehindFiveAlike();
        faultBehindTheSum();
        faultOfN();
        faultOfTheSum();
        faultOfTheSumAheadOfStuffed();
        faultOfTheTail();
        endOfTape();
        endWhereAStuffedOneIsDue();
        toldSoFar();
        latestRead();
        toldRefused();
        bytesThatWereWhole();
        bytesOfAsMany();
        Edge.end();
    }

    private static RankWire withTape(String bits) {
        RankWire x = new RankWire();
        for (char bit : bits.replace(" ", "").toCharArray()) {
            x.feed(bit - '0', 1);
        }
        return x;
    }

    private static int bit(RankWire x, int at) {
        x.bend(at);
        return x.bend(at);
    }

    /** What a read answers, and told(0 .. 4) and bytes() behind it. */
    private static void reads(Edge e, String name, RankWire x, int from, int fault, int... told) {
        e.due(name + ": read(" + from + ")", x.read(from), fault);
        for (int i = 0; i < 5; i++) {
            e.due(name + ": told(" + i + ")", x.told(i), told[i]);
        }
        e.due(name + ": bytes()", x.bytes(), told[5]);
    }

    private static void feeds() {
        Edge e = Edge.of(15, "THE TAPE gets the n lowest bits of a number behind it, the highest of these first (n 0 .. 32)");
        RankWire x = new RankWire();
        e.due("feed(-1, 0)", x.feed(-1, 0), 0);
        e.due("feed(-2, 1)", x.feed(-2, 1), 1);
        e.due("the lowest", bit(x, 0), 0);
        e.due("feed(-5, 3)", x.feed(-5, 3), 4);
        int[] lowest = {0, 1, 1};
        for (int i = 0; i < 3; i++) {
            e.due("the highest of the lowest first", bit(x, 1 + i), lowest[i]);
        }
        e.due("feed(1, 32)", x.feed(1, 32), 36);
        e.due("its highest", bit(x, 4), 0);
        e.due("its lowest", bit(x, 35), 1);
        e.due("feed(MIN, 32)", x.feed(Integer.MIN_VALUE, 32), 68);
        e.due("its highest", bit(x, 36), 1);
        e.due("its second", bit(x, 37), 0);
        e.due("feed(MIN, 31)", x.feed(Integer.MIN_VALUE, 31), 99);
        e.due("its highest isn't one of the lowest 31", bit(x, 68), 0);
    }

    private static void feedRefused() {
        Edge e = Edge.of(15, "BELOW, NO: n; FULL.");
        RankWire x = new RankWire();
        e.due("feed(0, 33)", x.feed(0, 33), RankWire.NO);
        e.due("feed(0, MAX)", x.feed(0, Integer.MAX_VALUE), RankWire.NO);
        e.due("feed(0, -1)", x.feed(0, -1), RankWire.BELOW);
        e.due("feed(0, MIN)", x.feed(0, Integer.MIN_VALUE), RankWire.BELOW);
        e.due("none came", x.wipe(), 0);
        fill(x, 2000);
        e.due("BELOW ahead of FULL", x.feed(0, -1), RankWire.BELOW);
        e.due("NO ahead of FULL", x.feed(0, 33), RankWire.NO);
        e.due("FULL", x.feed(0, 32), RankWire.FULL);
    }

    private static void fill(RankWire x, int upTo) {
        int has = x.feed(0, 0);
        while (has < upTo) {
            has = x.feed(0x55555555, Math.min(32, upTo - has));
        }
    }

    private static void tapeIsFullByFeed() {
        Edge e = Edge.of(15, "THE TAPE holds bits (2000 at most)");
        RankWire x = new RankWire();
        fill(x, 1984);
        e.due("one too many", x.feed(-1, 17), RankWire.FULL);
        e.due("none of them came", x.feed(0, 0), 1984);
        e.due("just so many", x.feed(-1, 16), 2000);
        e.due("the last one", bit(x, 1999), 1);
        e.due("behind it", x.bend(2000), RankWire.BEYOND);
        e.due("one more", x.feed(0, 1), RankWire.FULL);
        e.due("none more", x.feed(0, 0), 2000);
        e.due("read(2000)", x.read(2000), 6);
        e.due("wipe()", x.wipe(), 2000);
        e.due("room again", x.feed(0, 32), 32);
    }

    private static void tapeIsFullByLay() {
        Edge e = Edge.of(16, "THE TAPE holds bits (2000 at most)");
        RankWire x = Wires.withWord(0, 0, 0);
        fill(x, 2000 - 48 + 1);
        e.due("one bit too many", x.lay(0), RankWire.FULL);
        e.due("none of them came", x.wipe(), 2000 - 48 + 1);
        fill(x, 2000 - 48);
        e.due("just so many", x.lay(0), 2000);
        e.due("it stands there", x.read(2000 - 48), 0);
        e.due("up to the end", x.told(0), 2000);
        Edge refused = Edge.of(16, "BEYOND, FULL.");
        refused.due("lay(0)", x.lay(0), RankWire.FULL);
        refused.due("BEYOND ahead of FULL", x.lay(1), RankWire.BEYOND);
    }

    private static void lays() {
        Edge e = Edge.of(16, "THE TAPE gets the FRAME of a WORD behind it: how many it has.");
        RankWire x = Wires.withWord(5, 1, 0);
        e.due("lay(0)", x.lay(0), 53);
        x.rank(0, 0);
        x.value(0, 65);
        int size = x.size(0);
        e.due("lay(0), another FRAME now", x.lay(0), 53 + size);
        for (int i = 0; i < size; i++) {
            e.due("bit " + i, bit(x, 53 + i), x.bit(0, i));
        }
        e.due("the first one is as it was", x.read(0), 0);
        e.due("its RANK", x.told(1), 5);
        Edge refused = Edge.of(16, "BEYOND, FULL.");
        int[] none = {1, -1, Integer.MIN_VALUE, Integer.MAX_VALUE};
        for (int word : none) {
            refused.due("lay(" + word + ")", x.lay(word), RankWire.BEYOND);
        }
        refused.due("none came", x.feed(0, 0), 53 + size);
    }

    private static void bends() {
        Edge e = Edge.of(17, "A bit of THE TAPE is turned: what it is. BEYOND.");
        RankWire x = withTape("01");
        e.due("bend(0)", x.bend(0), 1);
        e.due("bend(0) again", x.bend(0), 0);
        e.due("bend(1)", x.bend(1), 0);
        int[] none = {2, -1, 1999, 2000, Integer.MIN_VALUE, Integer.MAX_VALUE};
        for (int at : none) {
            e.due("bend(" + at + ")", x.bend(at), RankWire.BEYOND);
        }
        e.due("of an empty one", new RankWire().bend(0), RankWire.BEYOND);
        x.wipe();
        e.due("of a wiped one", x.bend(0), RankWire.BEYOND);
    }

    private static void wipes() {
        Edge e = Edge.of(18, "THE TAPE is empty: how many bits it had.");
        RankWire x = withTape("0110");
        e.due("wipe()", x.wipe(), 4);
        e.due("wipe() again", x.wipe(), 0);
        e.due("read(0)", x.read(0), 6);
        e.due("read(1)", x.read(1), RankWire.BEYOND);
        e.due("feed(1, 1)", x.feed(1, 1), 1);
        e.due("its only bit", bit(x, 0), 1);
    }

    private static void wholeFrames() {
        Edge e = Edge.of(19, "TO READ from a place: 0, or the FAULT (1 .. 6).");
        RankWire x = Wires.withWord(5, 1, 0x9C);
        x.word(0, 2048 + 77777777, 8, 100, 0);
        x.value(1, 0x8001020304050607L);
        x.feed(0x5, 3);
        x.lay(0);
        x.lay(1);
        int first = 3 + x.size(0);
        reads(e, "a SHORT one", x, 3, 0, first, 5, 1, x.stuffed(0), x.sum(0), 0x9C);
        e.due("a LONG one", x.read(first), 0);
        int[] told = {first + x.size(1), 2048 + 77777777, 8, x.stuffed(1), x.sum(1)};
        for (int i = 0; i < told.length; i++) {
            e.due("a LONG one: told(" + i + ")", x.told(i), told[i]);
        }
        e.due("a LONG one: bytes()", x.bytes(), 0x8001020304050607L);
        int[][] others = {{0, 48, 6, 0}, {14, 46, 4, 5616}, {36, 47, 5, 31776}, {92, 45, 3, 21023},
            {2047, 45, 3, 23137}, {2048, 68, 8, 1982}, {Wires.LAST_RANK, 68, 8, 5891}};
        for (int[] one : others) {
            RankWire y = Wires.withWord(one[0], 0, 0);
            y.lay(0);
            reads(e, "RANK " + one[0], y, 0, 0, one[1], one[0], 0, one[2], one[3], 0);
        }
    }

    private static void readBeyond() {
        Edge e = Edge.of(19, "BEYOND: below 0, or above how many bits there are.");
        RankWire x = withTape("1000");
        int[] none = {-1, 5, Integer.MIN_VALUE, Integer.MAX_VALUE};
        for (int from : none) {
            e.due("read(" + from + ")", x.read(from), RankWire.BEYOND);
        }
        e.due("read(4)", x.read(4), 6);
        e.due("read(0)", x.read(0), 1);
        e.due("of an empty one", new RankWire().read(0), 6);
        e.due("of an empty one, behind it", new RankWire().read(1), RankWire.BEYOND);
    }

    private static void faultOfTheFirstBit() {
        Edge e = Edge.of(19, "the first bit has to be 0 (else FAULT 1, there)");
        reads(e, "a 1", withTape("0111"), 1, 1, 1, NONE, NONE, 0, NONE, 0);
        reads(e, "a 1 and no more", withTape("1"), 0, 1, 0, NONE, NONE, 0, NONE, 0);
        reads(e, "a 0 and no more", withTape("0"), 0, 6, 1, NONE, NONE, 0, NONE, 0);
    }

    private static void faultBehindFiveAlike() {
        Edge e = Edge.of(19, "behind five alike the next one must not be alike (FAULT 2, there");
        reads(e, "six 0s", withTape("000000"), 0, 2, 5, NONE, NONE, 0, NONE, 0);
        reads(e, "six 0s from a place on", withTape("11 000000"), 2, 2, 7, NONE, NONE, 0, NONE, 0);
        reads(e, "bits ahead of the place don't count", withTape("0000 0 0 1"), 4, 6, 7, NONE, NONE, 0, NONE, 0);
        reads(e, "six 1s", withTape("0 111111"), 0, 2, 6, NONE, NONE, 0, NONE, 0);
        reads(e, "five 1s and a 0", withTape("0 11111 0"), 0, 6, 7, NONE, NONE, 1, NONE, 0);
        reads(e, "one taken out counts", withTape("00000 1 1111 1"), 0, 2, 10, NONE, NONE, 1, NONE, 0);
        reads(e, "one taken out counts, as it must be", withTape("00000 1 1111 0"), 0, 6, 11, NONE, NONE, 2, NONE, 0);
        reads(e, "behind a RANK", withTape("0 10101010000 0 0"), 0, 2, 13, 0x550, NONE, 0, NONE, 0);
        reads(e, "behind n", withTape(START + "0000 0"), 0, 2, 17, 0x555, 0, 0, NONE, 0);
        reads(e, "behind a byte", withTape(START + "0010 11100000 0"), 0, 2, 25, 0x555, 2, 0, NONE, 0xE0);
    }

    private static void faultBehindTheSum() {
        Edge e = Edge.of(19, "the last bit of the SUM, too, has one behind it, if it is the fifth");
        RankWire x = Wires.withWord(36, 0, 0);
        x.lay(0);
        x.bend(36);
        reads(e, "a sixth 0", x, 0, 2, 36, 36, 0, 4, 31776, 0);
        RankWire y = Wires.withWord(92, 0, 0);
        y.lay(0);
        y.bend(34);
        reads(e, "a sixth 1", y, 0, 2, 34, 92, 0, 2, 21023, 0);
        // four alike: the TAIL comes at once
        RankWire z = Wires.withWord(133, 1, 17);
        z.lay(0);
        reads(e, "the fourth 1", z, 0, 0, 50, 133, 1, 0, 7119, 17);
    }

    private static void faultOfN() {
        Edge e = Edge.of(19, "n above 8: FAULT 3, at its last bit.");
        for (int n = 9; n <= 15; n++) {
            reads(e, "n = " + n, withTape(START + Integer.toBinaryString(n) + " 1010"), 0, 3, 16, 0x555, n, 0, NONE, 0);
        }
        reads(e, "n = 15 at the end of THE TAPE", withTape(START + "1111"), 0, 3, 16, 0x555, 15, 0, NONE, 0);
        reads(e, "n = 8", withTape(START + "1000"), 0, 6, 17, 0x555, 8, 0, NONE, 0);
        // its last bit is the fifth, and the one behind it is alike
        reads(e, "n = 15 of a LONG RANK", withTape("0 10101010101 1 010101010101010101 1111 1"), 0, 3, 34,
            2048 + Integer.parseInt("10101010101010101010101010101", 2), 15, 0, NONE, 0);
    }

    private static void faultOfTheSum() {
        Edge e = Edge.of(19, "A SUM that is another one: FAULT 4, at its last bit");
        RankWire x = Wires.withWord(133, 1, 13);
        x.lay(0);
        x.bend(39);
        reads(e, "its last bit", x, 0, 4, 39, 133, 1, 0, 6801, 13);
        x.bend(39);
        x.bend(25);
        reads(e, "its first bit", x, 0, 4, 39, 133, 1, 0, 6800 + (1 << 14), 13);
        x.bend(25);
        x.bend(23);
        reads(e, "a bit of the BYTES", x, 0, 4, 39, 133, 1, 0, 6800, 15);
        x.bend(23);
        reads(e, "as it was", x, 0, 0, 50, 133, 1, 0, 6800, 13);
        reads(e, "at the end of THE TAPE", withTape(START + "0001 01010101 101010101010101"), 0, 4, 39,
            0x555, 1, 0, Integer.parseInt("101010101010101", 2), 0x55);
    }

    private static void faultOfTheSumAheadOfStuffed() {
        Edge e = Edge.of(19, "(ahead of looking for one that is stuffed behind it)");
        String start = START + "0001 01010101 1010101011 ";
        int sum = Integer.parseInt("101010101100000", 2);
        reads(e, "a sixth 0 behind it", withTape(start + "00000 0"), 0, 4, 39, 0x555, 1, 0, sum, 0x55);
        reads(e, "a 1 behind it", withTape(start + "00000 1"), 0, 4, 39, 0x555, 1, 0, sum, 0x55);
        reads(e, "nothing behind it", withTape(start + "00000"), 0, 4, 39, 0x555, 1, 0, sum, 0x55);
    }

    private static void faultOfTheTail() {
        Edge e = Edge.of(19, "A bit of the TAIL that is another one: FAULT 5, there (the second one is 0).");
        int[][] words = {{133, 1, 13, 50, 0, 6800}, {14, 0, 0, 46, 4, 5616}, {92, 0, 0, 45, 3, 21023}};
        for (int[] word : words) {
            RankWire x = Wires.withWord(word[0], word[1], word[2]);
            int size = x.lay(0);
            for (int i = 0; i < 10; i++) {
                int at = size - 10 + i;
                e.due("bit " + i + " of the TAIL, turned", x.bend(at), i == 1 ? 1 : 0);
                reads(e, "bit " + i + " of the TAIL", x, 0, 5, at, word[0], word[1], word[4], word[5], word[2]);
                x.bend(at);
            }
            reads(e, "as it was", x, 0, 0, word[3], word[0], word[1], word[4], word[5], word[2]);
        }
    }

    private static void endOfTape() {
        Edge e = Edge.of(19, "THE TAPE ends: FAULT 6, at its end.");
        int[][] words = {{14, 1, 0x1F}, {2049, 2, 0xFFFF}, {36, 0, 0}, {92, 0, 0}};
        for (int[] word : words) {
            RankWire whole = Wires.withWord(word[0], word[1], word[2]);
            int size = whole.size(0);
            RankWire x = new RankWire();
            for (int i = 0; i < size; i++) {
                e.due(i + " bits of RANK " + word[0], x.read(0), 6);
                e.due("it ends there", x.told(0), i);
                x.feed(whole.bit(0, i), 1);
            }
            e.due("all of it", x.read(0), 0);
            e.due("behind it", x.read(size), 6);
            e.due("it ends there", x.told(0), size);
        }
    }

    private static void endWhereAStuffedOneIsDue() {
        Edge e = Edge.of(19, "FAULT 6, at its end.");
        reads(e, "five 0s", withTape("00000"), 0, 6, 5, NONE, NONE, 0, NONE, 0);
        reads(e, "five 1s", withTape("0 11111"), 0, 6, 6, NONE, NONE, 0, NONE, 0);
        reads(e, "n is the fifth", withTape(START + "0000"), 0, 6, 17, 0x555, 0, 0, NONE, 0);
        reads(e, "a byte is the fifth", withTape(START + "0001 11100000"), 0, 6, 25, 0x555, 1, 0, NONE, 0xE0);
        RankWire whole = Wires.withWord(36, 0, 0);
        RankWire x = new RankWire();
        for (int i = 0; i < 36; i++) {
            x.feed(whole.bit(0, i), 1);
        }
        reads(e, "the SUM is the fifth", x, 0, 6, 36, 36, 0, 4, 31776, 0);
    }

    private static void toldSoFar() {
        Edge e = Edge.of(20, "RANK (1; NONE: it didn't come so far), n (2; likewise)");
        reads(e, "11 bits", withTape("0 10101010101"), 0, 6, 12, NONE, NONE, 0, NONE, 0);
        reads(e, "a SHORT RANK", withTape("0 10101010101 0"), 0, 6, 13, 0x555, NONE, 0, NONE, 0);
        reads(e, "a LONG one begins", withTape("0 10101010101 1"), 0, 6, 13, NONE, NONE, 0, NONE, 0);
        reads(e, "17 more of it", withTape("0 10101010101 1 01010101010101010"), 0, 6, 30, NONE, NONE, 0, NONE, 0);
        int rank = 2048 + Integer.parseInt("10101010101010101010101010101", 2);
        reads(e, "18 more of it", withTape("0 10101010101 1 010101010101010101"), 0, 6, 31, rank, NONE, 0, NONE, 0);
        reads(e, "3 bits of n", withTape(START + "010"), 0, 6, 16, 0x555, NONE, 0, NONE, 0);
        reads(e, "4 bits of n", withTape(START + "0101"), 0, 6, 17, 0x555, 5, 0, NONE, 0);
        Edge sum = Edge.of(20, "the SUM that stood there (4; NONE)");
        String start = START + "0001 01010101 ";
        reads(sum, "14 bits of it", withTape(start + "10101010101010"), 0, 6, 39, 0x555, 1, 0, NONE, 0x55);
        reads(sum, "15 bits of it", withTape(start + "101010101010101"), 0, 4, 39, 0x555, 1, 0, 0x5555, 0x55);
        RankWire x = Wires.withWord(0, 0, 0);
        x.lay(0);
        x.read(0);
        sum.due("a SUM of 0 is not NONE", x.told(4), 0);
        sum.due("nor is RANK 0", x.told(1), 0);
        sum.due("nor is n 0", x.told(2), 0);
        Edge out = Edge.of(20, "how many bits were taken out (3)");
        out.due("of RANK 0", x.told(3), 6);
        x.bend(17);
        x.read(0);
        out.due("till a FAULT", x.told(3), 2);
    }

    private static void latestRead() {
        Edge e = Edge.of(20, "Of the latest read(): the place of the FAULT, or that behind the FRAME (what = 0)");
        RankWire x = Wires.withWord(5, 1, 0xFF);
        x.lay(0);
        x.read(0);
        e.due("behind the FRAME", x.told(0), x.size(0));
        x.read(-1);
        e.due("a refused one is none", x.told(0), x.size(0));
        x.wipe();
        x.feed(1, 1);
        x.value(0, 7);
        x.rank(0, 9);
        e.due("as it was then: RANK", x.told(1), 5);
        e.due("as it was then: n", x.told(2), 1);
        e.due("as it was then: bytes()", x.bytes(), 0xFF);
        reads(e, "another one", x, 0, 1, 0, NONE, NONE, 0, NONE, 0);
    }

    private static void toldRefused() {
        Edge e = Edge.of(20, "NO; MISSING: there was none.");
        RankWire x = withTape("1");
        int[] others = {5, -1, Integer.MIN_VALUE, Integer.MAX_VALUE};
        for (int what = 0; what < 5; what++) {
            e.due("told(" + what + ")", x.told(what), RankWire.MISSING);
        }
        for (int what : others) {
            e.due("NO ahead of MISSING, told(" + what + ")", x.told(what), RankWire.NO);
        }
        x.read(2);
        e.due("a refused one is none", x.told(0), RankWire.MISSING);
        x.read(0);
        for (int what : others) {
            e.due("told(" + what + ")", x.told(what), RankWire.NO);
        }
    }

    private static void bytesThatWereWhole() {
        Edge e = Edge.of(21, "(those that were whole). 0 without.");
        String start = START + "0011 ";
        e.due("none was read", withTape("1").bytes(), 0);
        reads(e, "7 bits", withTape(start + "0101010"), 0, 6, 24, 0x555, 3, 0, NONE, 0);
        reads(e, "a byte", withTape(start + "01010101"), 0, 6, 25, 0x555, 3, 0, NONE, 0x55);
        reads(e, "15 bits", withTape(start + "01010101 1010101"), 0, 6, 32, 0x555, 3, 0, NONE, 0x55);
        reads(e, "two bytes", withTape(start + "01010101 10101010"), 0, 6, 33, 0x555, 3, 0, NONE, 0x55AA);
        reads(e, "a sixth 1 in the second", withTape(start + "01010101 1111 1"), 0, 2, 29, 0x555, 3, 0, NONE, 0x55);
        RankWire x = Wires.withWord(5, 1, 0xFF);
        x.lay(0);
        x.read(0);
        e.due("bytes()", x.bytes(), 0xFF);
        x.read(x.size(0));
        e.due("without", x.bytes(), 0);
    }

    private static void bytesOfAsMany() {
        Edge e = Edge.of(21, "The BYTES that were read then, as VALUE of as many");
        long[] values = {0x80FF000000000001L, -1, Long.MAX_VALUE, Long.MIN_VALUE, 0};
        for (long value : values) {
            for (int n = 0; n <= 8; n++) {
                RankWire x = Wires.withWord(77, n, value);
                x.lay(0);
                x.read(0);
                long lowest = n == 8 ? value : value & ((1L << 8 * n) - 1);
                e.due(n + " of " + value, x.bytes(), lowest);
                e.due("that is no refusal", x.status(RankWire.MISSING) + x.status(RankWire.BEYOND), 0);
            }
        }
    }
}
