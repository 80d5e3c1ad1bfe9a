import java.util.ArrayList;
import java.util.List;
import java.util.TreeSet;

/**
 * The document once more, written as slowly and plainly as can be and in another way than RankWire:
 * frames and the tape are texts, every tick looks at every word, and each w is sought from its start.
 */
final class PlainModel {
    static final class N {
        int count;
        int failed;
        int offAt;

        boolean off() {
            return count >= 256;
        }
    }

    static final class W {
        int node;
        int rank;
        int kind;
        int n;
        int t;
        int first;
        int late;
        int due;
        long value;
        int toldIn;
        boolean waits;
        int from;
        int heard;
        int losses;
        int greatest = -1;
        int shakenK;
        int comeIn = -1;
        int answerIn = -1;
    }

    final List<N> nodes = new ArrayList<>();
    final List<W> words = new ArrayList<>();
    final int[] refusals = new int[10];
    String tape = "";

    boolean wasRead;
    int readFault;
    int readPlace;
    int readRank;
    int readN;
    int readOut;
    int readSum;
    long readBytes;

    final TreeSet<Integer> disturbed = new TreeSet<>();
    final List<int[]> log = new ArrayList<>();
    int tick;
    int free;
    int heard;
    int failed;
    int under = -1;
    int underFrom;
    int underBegan;
    int underSize;
    boolean underAlone;

    int every;
    List<Integer> order = null;
    List<Integer> row = null;

    int no(int by) {
        refusals[-by]++;
        return by;
    }

    boolean w(int i) {
        return i >= 0 && i < words.size();
    }

    boolean nd(int i) {
        return i >= 0 && i < nodes.size();
    }

    int node() {
        if (nodes.size() == 10) return no(-8);
        nodes.add(new N());
        return nodes.size() - 1;
    }

    int word(int node, int rank, int kind, int t, int first) {
        int k = Math.floorDiv(kind, 10);
        int n = Math.floorMod(kind, 10);
        if (!nd(node)) return no(-3);
        if (k == 3 && !w(first)) return no(-3);
        if (k < 0 || k > 3 || n > 8) return no(-7);
        if (rank < 0 || rank >= 2048 + (1 << 29)) return no(-7);
        if (t < 100 || t > 100000) return no(-7);
        if (k != 3 && (first < 0 || first > 100000)) return no(-7);
        for (W o : words) if (o.rank == rank) return no(-9);
        if (words.size() == 24) return no(-8);
        W x = new W();
        x.node = node;
        x.rank = rank;
        x.kind = k;
        x.n = n;
        x.t = t;
        x.first = first;
        x.due = t;
        x.toldIn = tick;
        while (x.first + x.shakenK * x.t < tick) x.shakenK++;
        words.add(x);
        order = null;
        return words.size() - 1;
    }

    int late(int word, int late) {
        if (!w(word)) return no(-3);
        W x = words.get(word);
        if (x.kind != 1) return no(-5);
        if (late < 0 || late > 1000) return no(-7);
        int b = x.late;
        x.late = late;
        if (b != late) order = null;
        return b;
    }

    int due(int word, int due) {
        if (!w(word)) return no(-3);
        if (due < 1 || due > 1000000) return no(-7);
        W x = words.get(word);
        int b = x.due;
        x.due = due;
        if (b != due) order = null;
        return b;
    }

    int value(int word, long v) {
        if (!w(word)) return no(-3);
        W x = words.get(word);
        boolean same = x.value == v;
        x.value = v;
        return same ? 0 : 1;
    }

    int rank(int word, int rank) {
        if (!w(word)) return no(-3);
        if (rank < 0 || rank >= 2048 + (1 << 29)) return no(-7);
        W x = words.get(word);
        for (W o : words) if (o != x && o.rank == rank) return no(-9);
        int b = x.rank;
        x.rank = rank;
        if (b != rank) order = null;
        return b;
    }

    int of(int word, int what) {
        if (!w(word)) return no(-3);
        if (what < 0 || what > 11) return no(-7);
        W x = words.get(word);
        return new int[] {x.node, x.rank, x.kind, x.n, x.t, x.first, x.late, x.due,
            x.waits ? 1 : 0, x.heard, x.losses, x.greatest}[what];
    }

    int about(int node, int what) {
        if (!nd(node)) return no(-3);
        if (what < 0 || what > 2) return no(-7);
        N x = nodes.get(node);
        return new int[] {x.count, x.count < 128 ? 0 : x.count < 256 ? 1 : 2, x.failed}[what];
    }

    static String bits(long number, int width) {
        StringBuilder s = new StringBuilder();
        for (int i = width - 1; i >= 0; i--) s.append((number >> i) & 1);
        return s.toString();
    }

    static String rankBits(int rank) {
        if (rank < 2048) return bits(rank, 11) + "0";
        String b = bits(rank - 2048, 29);
        return b.substring(0, 11) + "1" + b.substring(11);
    }

    /** By long division of the polynomial, as on paper. */
    static int rest(String plain) {
        String divisor = "1100010110011001";
        char[] c = (plain + "000000000000000").toCharArray();
        for (int i = 0; i < plain.length(); i++) {
            if (c[i] == '1') {
                for (int j = 0; j < divisor.length(); j++) {
                    c[i + j] = c[i + j] == divisor.charAt(j) ? '0' : '1';
                }
            }
        }
        return Integer.parseInt(new String(c, plain.length(), 15), 2);
    }

    static String beforeSum(W x) {
        StringBuilder s = new StringBuilder("0" + rankBits(x.rank) + bits(x.n, 4));
        for (int i = x.n - 1; i >= 0; i--) s.append(bits((x.value >> (8 * i)) & 255, 8));
        return s.toString();
    }

    static boolean fiveAlike(String s) {
        return s.endsWith("00000") || s.endsWith("11111");
    }

    static String stuff(String plain) {
        String out = "";
        for (char c : plain.toCharArray()) {
            out += c;
            if (fiveAlike(out)) out += c == '0' ? '1' : '0';
        }
        return out;
    }

    static String frame(W x) {
        String plain = beforeSum(x);
        return stuff(plain + bits(rest(plain), 15)) + "1011111111";
    }

    int size(int word) {
        return w(word) ? frame(words.get(word)).length() : no(-3);
    }

    int bit(int word, int i) {
        if (!w(word)) return no(-3);
        if (i < 0) return no(-4);
        String f = frame(words.get(word));
        return i < f.length() ? f.charAt(i) - '0' : -1;
    }

    int sum(int word) {
        return w(word) ? rest(beforeSum(words.get(word))) : no(-3);
    }

    int stuffed(int word) {
        if (!w(word)) return no(-3);
        W x = words.get(word);
        return frame(x).length() - 10 - beforeSum(x).length() - 15;
    }

    static boolean goesAhead(int rank, int other) {
        String a = rankBits(rank);
        String b = rankBits(other);
        for (int i = 0; i < Math.min(a.length(), b.length()); i++) {
            if (a.charAt(i) != b.charAt(i)) return a.charAt(i) == '0';
        }
        return false;
    }

    int ahead(int word, int other) {
        if (!w(word) || !w(other)) return no(-3);
        return word == other || goesAhead(words.get(word).rank, words.get(other).rank) ? word : other;
    }

    int feed(int number, int n) {
        if (n < 0) return no(-4);
        if (n > 32) return no(-7);
        if (tape.length() + n > 2000) return no(-8);
        tape += bits(number, n);
        return tape.length();
    }

    int lay(int word) {
        if (!w(word)) return no(-3);
        String f = frame(words.get(word));
        if (tape.length() + f.length() > 2000) return no(-8);
        tape += f;
        return tape.length();
    }

    int bend(int at) {
        if (at < 0 || at >= tape.length()) return no(-3);
        char c = tape.charAt(at) == '0' ? '1' : '0';
        tape = tape.substring(0, at) + c + tape.substring(at + 1);
        return c - '0';
    }

    int wipe() {
        int had = tape.length();
        tape = "";
        return had;
    }

    int read(int from) {
        if (from < 0 || from > tape.length()) return no(-3);
        wasRead = true;
        readRank = -1;
        readN = -1;
        readOut = 0;
        readSum = -1;
        readBytes = 0;
        String plain = "";
        int at = from;
        while (true) {
            boolean whole = readN >= 0 && readN <= 8 && plain.length() == lengthBeforeSum() + 15;
            boolean stuffedNext = at - from >= 5 && fiveAlike(tape.substring(from, at));
            if (whole && !stuffedNext) break;
            if (at == tape.length()) return fault(6, at);
            if (stuffedNext) {
                if (tape.charAt(at) == tape.charAt(at - 1)) return fault(2, at);
                readOut++;
                at++;
                continue;
            }
            plain += tape.charAt(at);
            at++;
            int f = look(plain);
            if (f != 0) return fault(f, at - 1);
        }
        for (char c : "1011111111".toCharArray()) {
            if (at == tape.length()) return fault(6, at);
            if (tape.charAt(at) != c) return fault(5, at);
            at++;
        }
        return fault(0, at);
    }

    int lengthBeforeSum() {
        return 1 + (readRank < 2048 ? 12 : 30) + 4 + 8 * readN;
    }

    /** What the plain bits so far tell: sets what has come, and answers a fault at the last of them. */
    int look(String plain) {
        int m = plain.length();
        if (m == 1) return plain.equals("1") ? 1 : 0;
        if (m < 13) return 0;
        boolean isLong = plain.charAt(12) == '1';
        int rankEnd = isLong ? 31 : 13;
        if (m == rankEnd) {
            String r = plain.substring(1, 12) + plain.substring(13, rankEnd);
            readRank = Integer.parseInt(r, 2) + (isLong ? 2048 : 0);
        }
        if (m == rankEnd + 4) {
            readN = Integer.parseInt(plain.substring(rankEnd), 2);
            return readN > 8 ? 3 : 0;
        }
        if (m <= rankEnd + 4) return 0;
        int end = rankEnd + 4 + 8 * readN;
        if (m <= end && (m - rankEnd - 4) % 8 == 0) {
            readBytes = Long.parseUnsignedLong(plain.substring(rankEnd + 4), 2);
        }
        if (m == end + 15) {
            readSum = Integer.parseInt(plain.substring(end), 2);
            return readSum == rest(plain.substring(0, end)) ? 0 : 4;
        }
        return 0;
    }

    int fault(int fault, int place) {
        readFault = fault;
        readPlace = place;
        return fault;
    }

    int told(int what) {
        if (what < 0 || what > 4) return no(-7);
        if (!wasRead) return no(-2);
        return new int[] {readPlace, readRank, readN, readOut, readSum}[what];
    }

    long bytes() {
        return readBytes;
    }

    int come(int word) {
        if (!w(word)) return no(-3);
        W x = words.get(word);
        if (x.kind != 2) return no(-5);
        if (x.comeIn >= 0 && tick - x.comeIn < x.t || nodes.get(x.node).off()) return no(-7);
        x.comeIn = tick;
        return 1;
    }

    int disturb(int at) {
        if (at < tick || disturbed.contains(at)) return no(-7);
        if (disturbed.tailSet(tick).size() == 60) return no(-8);
        disturbed.add(at);
        return disturbed.tailSet(tick).size();
    }

    int run(int n) {
        if (n < 0) return no(-4);
        if (n == 0 || n > 5000) return no(-7);
        int before = heard;
        for (int i = 0; i < n; i++) {
            one();
            tick++;
        }
        return heard - before;
    }

    void one() {
        for (N x : nodes) if (x.off() && x.offAt + 1408 == tick) x.count = 0;
        for (W x : words) arrive(x);
        if (under < 0 && tick >= free) begin();
        if (under >= 0) end();
    }

    void arrive(W x) {
        int from = tick;
        if (x.kind == 0) {
            if (tick < x.first || (tick - x.first) % x.t != 0) return;
        } else if (x.kind == 1) {
            int plainTime = x.first + x.shakenK * x.t;
            if (tick < plainTime + 7 * x.shakenK % (x.late + 1)) return;
            from = plainTime;
            x.shakenK++;
        } else if (x.kind == 2) {
            if (x.comeIn != tick) return;
        } else if (x.answerIn != tick) {
            return;
        }
        if (nodes.get(x.node).off()) return;
        if (x.waits) x.losses++;
        x.waits = true;
        x.from = from;
    }

    void begin() {
        for (int i = 0; i < words.size(); i++) {
            if (!words.get(i).waits || nodes.get(words.get(i).node).off()) continue;
            if (under < 0 || goesAhead(words.get(i).rank, words.get(under).rank)) under = i;
        }
        if (under < 0) return;
        W x = words.get(under);
        x.waits = false;
        underFrom = x.from;
        underBegan = tick;
        underSize = frame(x).length();
        underAlone = true;
        for (int i = 0; i < nodes.size(); i++) if (i != x.node && !nodes.get(i).off()) underAlone = false;
    }

    void end() {
        W x = words.get(under);
        int index = tick - underBegan;
        if (disturbed.contains(tick) || underAlone && index == underSize - 9) {
            failed++;
            nodes.get(x.node).failed++;
            log.add(0, new int[] {under, underBegan, tick, -1});
            if (x.waits) {
                x.losses++;
            } else {
                x.waits = true;
                x.from = underFrom;
            }
            for (int i = 0; i < nodes.size(); i++) more(i, i == x.node ? 8 : 1);
            free = tick + 18;
            under = -1;
        } else if (index == underSize - 1) {
            heard++;
            x.heard++;
            int time = tick - underFrom;
            x.greatest = Math.max(x.greatest, time);
            log.add(0, new int[] {under, underBegan, tick, time});
            for (N o : nodes) if (!o.off() && o.count > 0) o.count--;
            for (W o : words) if (o.kind == 3 && o.first == under) o.answerIn = tick + 1;
            free = tick + 4;
            under = -1;
        }
    }

    void more(int node, int by) {
        N x = nodes.get(node);
        if (x.off()) return;
        x.count += by;
        if (!x.off()) return;
        x.offAt = tick;
        for (W o : words) if (o.node == node) o.waits = false;
    }

    int count(int what) {
        if (what < 0 || what > 7) return no(-7);
        return new int[] {tick, heard, failed, under, under < 0 ? free : -1,
            nodes.size(), words.size(), disturbed.tailSet(tick).size()}[what];
    }

    int log(int i, int what) {
        if (i < 0 || i >= Math.min(40, log.size())) return no(-3);
        if (what < 0 || what > 3) return no(-7);
        return log.get(i)[what];
    }

    int every(int n) {
        if (n != 0 && (n < 100 || n > 1000000)) return no(-7);
        int b = every;
        every = n;
        if (b != n) order = null;
        return b;
    }

    static int c(W x) {
        int l = 32 + 8 * x.n + (x.rank >= 2048 ? 18 : 0);
        return l + (l - 1) / 4 + 13;
    }

    int most(int word) {
        return w(word) ? c(words.get(word)) : no(-3);
    }

    int worst(int word) {
        return w(word) ? worstOf(words.get(word)) : no(-3);
    }

    int worstOf(W x) {
        List<W> higher = new ArrayList<>();
        List<W> lower = new ArrayList<>();
        for (W o : words) if (o != x) (goesAhead(o.rank, x.rank) ? higher : lower).add(o);
        return worstAmong(x, higher, lower);
    }

    int worstAmong(W x, List<W> higher, List<W> lower) {
        int b = 0;
        for (W o : lower) b = Math.max(b, c(o) - 1);
        int g = c(x);
        for (W o : higher) g = Math.max(g, c(o));
        int busy = 1;
        while (true) {
            long next = b + e(busy, g) + (busy + x.late + x.t - 1) / x.t * (long) c(x);
            for (W o : higher) next += (busy + o.late + o.t - 1) / o.t * (long) c(o);
            if (next > 30000) return -1;
            if (next == busy) break;
            busy = (int) next;
        }
        int worst = -1;
        for (int q = 0; q * (long) x.t < busy + x.late; q++) {
            int w = 0;
            while (true) {
                long next = b + e(w, g) + (long) q * c(x);
                for (W o : higher) next += (w + o.late + o.t) / o.t * (long) c(o);
                if (next > 30000) return -1;
                if (next == w) break;
                w = (int) next;
            }
            worst = Math.max(worst, x.late + w - q * x.t + c(x));
        }
        return worst;
    }

    long e(int w, int greatest) {
        return every == 0 ? 0 : (w + every) / every * (long) (18 + greatest);
    }

    int misses() {
        int m = 0;
        for (W x : words) {
            int r = worstOf(x);
            if (r < 0 || r > x.due) m++;
        }
        return m;
    }

    long load() {
        long l = 0;
        for (W x : words) l += 1000000L * c(x) / x.t;
        return l;
    }

    int order() {
        order = null;
        List<W> left = new ArrayList<>(words);
        List<W> placed = new ArrayList<>();
        List<Integer> found = new ArrayList<>();
        while (!left.isEmpty()) {
            W fit = null;
            for (W x : left) {
                List<W> higher = new ArrayList<>(left);
                higher.remove(x);
                int r = worstAmong(x, higher, placed);
                if (r >= 0 && r <= x.due) {
                    fit = x;
                    break;
                }
            }
            if (fit == null) return 0;
            left.remove(fit);
            placed.add(fit);
            found.add(0, words.indexOf(fit));
        }
        order = found;
        return 1;
    }

    int place(int i) {
        if (order == null) return no(-2);
        if (i < 0 || i >= order.size()) return no(-3);
        return order.get(i);
    }

    int give() {
        if (order == null) return no(-2);
        List<Integer> ranks = new ArrayList<>();
        for (W x : words) ranks.add(x.rank);
        ranks.sort((a, b) -> a.equals(b) ? 0 : goesAhead(a, b) ? -1 : 1);
        List<Integer> given = order;
        for (int i = 0; i < given.size(); i++) {
            W x = words.get(given.get(i));
            if (x.rank != ranks.get(i)) order = null;
            x.rank = ranks.get(i);
        }
        return 1;
    }

    int put(int word) {
        if (!w(word)) return no(-3);
        W x = words.get(word);
        row = new ArrayList<>();
        for (int i = 0; i < x.n; i++) row.add(0, (int) (byte) (x.value >> (8 * i)));
        return x.n;
    }

    int tear() {
        int was = row == null ? 0 : 1;
        row = null;
        return was;
    }

    int row(int i) {
        if (row == null) return no(-2);
        if (i < 0 || i >= row.size()) return no(-3);
        return row.get(i);
    }

    int copy(int i, int j, int n) {
        if (row == null) return no(-2);
        if (n < 0) return no(-4);
        if (i < 0 || j < 0 || (long) i + n > row.size() || (long) j + n > row.size()) return no(-6);
        List<Integer> were = new ArrayList<>(row);
        for (int k = 0; k < n; k++) row.set(j + k, were.get(i + k));
        return n;
    }

    int status(int by) {
        if (by < -9 || by > -2) return no(-7);
        return refusals[-by];
    }
}
