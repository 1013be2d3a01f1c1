import java.util.ArrayList;
import java.util.Arrays;
import java.util.List;

/**
 * A second program after the same document, plain and slow: rows are made anew by each call, matches
 * are sought at every place, and a fault is thrown where it is met.
 */
final class Model {
    private static final int ROOM = 8000;
    private static final long WORD = 0xFFFFFFFFL;
    private static final long P1 = 2654435761L;
    private static final long P2 = 2246822519L;
    private static final long P3 = 3266489917L;
    private static final long P4 = 668265263L;
    private static final long P5 = 374761393L;

    private int[] in = {};
    private int[] out = {};
    private int[] history = {};
    private int place = 0;

    private static final class Fault extends RuntimeException {
        private static final long serialVersionUID = 1L;
        private final int number;
        private final int place;

        Fault(int number, int place) {
            this.number = number;
            this.place = place;
        }
    }

    boolean write(long bytes, int n) {
        if (n < 1 || n > 8 || in.length + n > ROOM) {
            return false;
        }
        int[] added = new int[n];
        for (int i = 0; i < n; i++) {
            added[n - 1 - i] = (int) (bytes >> 8 * i & 255);
        }
        in = joined(in, added);
        return true;
    }

    boolean again(int m, int n) {
        if (m < 1 || m > in.length || n < 0 || n > ROOM || in.length + m * n > ROOM) {
            return false;
        }
        int[] last = Arrays.copyOfRange(in, in.length - m, in.length);
        for (int i = 0; i < n; i++) {
            in = joined(in, last);
        }
        return true;
    }

    void clear() {
        in = new int[0];
    }

    void turn() {
        in = out;
    }

    void remember() {
        history = in;
        in = new int[0];
    }

    int block(int way) {
        if (way < 0 || way > 3) {
            return -1;
        }
        return keep(written(joined(history, in), history.length, way));
    }

    int unblock(int most) {
        if (most < 0 || most > ROOM) {
            return -4;
        }
        try {
            int[] row = blockRead(0, in.length, history, most);
            place = in.length;
            return keep(row);
        } catch (Fault fault) {
            place = fault.place;
            return -fault.number;
        }
    }

    int frame(int flags, int k, int key, int cut, int way) {
        boolean flagsMayBe = flags >= 64 && flags < 128 && flags % 4 < 2;
        if (!flagsMayBe || k < 4 || k > 7 || cut < 1 || cut > ROOM || way < 0 || way > 3) {
            return -1;
        }
        int[] head = {flags, 16 * k};
        if ((flags & 8) != 0) {
            head = joined(head, joined(number(in.length), number(0)));
        }
        if ((flags & 1) != 0) {
            head = joined(head, number(key));
        }
        int[] row = joined(new int[] {4, 34, 77, 24}, head);
        row = joined(row, new int[] {(int) (narrowSum(head) / 256 % 256)});
        for (int from = 0; from < in.length; from += cut) {
            int[] part = Arrays.copyOfRange(in, from, Math.min(in.length, from + cut));
            int[] ahead = (flags & 32) != 0 ? history : joined(history, Arrays.copyOf(in, from));
            int[] packed = written(joined(ahead, part), ahead.length, way);
            boolean packs = packed.length < part.length;
            int[] body = packs ? packed : part;
            row = joined(row, number(packs ? body.length : body.length + (1L << 31)));
            row = joined(row, body);
            if ((flags & 16) != 0) {
                row = joined(row, number(narrowSum(body)));
            }
        }
        row = joined(row, number(0));
        if ((flags & 4) != 0) {
            row = joined(row, number(narrowSum(in)));
        }
        return keep(row);
    }

    int unframe(int most) {
        if (most < 0 || most > ROOM) {
            return -12;
        }
        try {
            int[] contents = {};
            int at = 0;
            while (at < in.length) {
                need(at, 4);
                if (isSpare(at)) {
                    need(at, 8);
                    long n = numberAt(at + 4);
                    need(at + 8, n);
                    at += 8 + (int) n;
                } else if (numberAt(at) == 0x184D2204L) {
                    FrameRead frame = new FrameRead(at + 4, most - contents.length);
                    contents = joined(contents, frame.content);
                    at = frame.at;
                } else {
                    throw new Fault(4, at);
                }
            }
            place = in.length;
            return keep(contents);
        } catch (Fault fault) {
            place = fault.place;
            return -fault.number;
        }
    }

    int place() {
        return place;
    }

    int sum() {
        return (int) narrowSum(in);
    }

    int size() {
        return out.length;
    }

    int byteAt(int k) {
        return k < 0 || k >= out.length ? -1 : out[k];
    }

    int inCount() {
        return in.length;
    }

    private int keep(int[] row) {
        if (row.length > ROOM) {
            return -1;
        }
        out = row;
        return row.length;
    }

    // --- writing

    private record Match(int from, int length) {
    }

    private static int[] written(int[] data, int h, int way) {
        List<Integer> block = new ArrayList<>();
        int literals = h;
        int p = h;
        while (p < data.length) {
            Match match = taken(data, p, way);
            if (match == null) {
                p++;
                continue;
            }
            int distance = p - match.from;
            addLiterals(block, data, literals, p, match.length - 4);
            block.add(distance % 256);
            block.add(distance / 256);
            addGrowth(block, match.length - 4);
            p += match.length;
            literals = p;
        }
        addLiterals(block, data, literals, data.length, 0);
        return block.stream().mapToInt(Integer::intValue).toArray();
    }

    private static void addLiterals(List<Integer> block, int[] data, int from, int upTo, int b) {
        block.add(16 * Math.min(15, upTo - from) + Math.min(15, b));
        addGrowth(block, upTo - from);
        for (int i = from; i < upTo; i++) {
            block.add(data[i]);
        }
    }

    private static void addGrowth(List<Integer> block, int n) {
        if (n >= 15) {
            for (int i = 0; i < (n - 15) / 255; i++) {
                block.add(255);
            }
            block.add((n - 15) % 255);
        }
    }

    private static Match taken(int[] data, int p, int way) {
        return switch (way) {
            case 0 -> nearest(data, p, 4);
            case 1 -> nearest(data, p, 8) != null ? nearest(data, p, 8) : nearest(data, p, 4);
            case 2 -> longest(data, p);
            default -> lengthOf(longest(data, p + 1)) > lengthOf(longest(data, p)) ? null : longest(data, p);
        };
    }

    private static int lengthOf(Match match) {
        return match == null ? 0 : match.length;
    }

    private static Match nearest(int[] data, int p, int least) {
        for (int q = p - 1; q >= 0; q--) {
            int length = lengthAt(data, q, p);
            if (length >= least) {
                return new Match(q, length);
            }
        }
        return null;
    }

    private static Match longest(int[] data, int p) {
        Match best = null;
        for (int q = 0; q < p; q++) {
            int length = lengthAt(data, q, p);
            if (length >= 4 && length >= lengthOf(best)) {
                best = new Match(q, length);
            }
        }
        return best;
    }

    /** 0 behind LAST, too. */
    private static int lengthAt(int[] data, int q, int p) {
        if (p > data.length - 12 || p - q > 65535) {
            return 0;
        }
        int length = 0;
        while (p + length < data.length - 5 && data[p + length] == data[q + length]) {
            length++;
        }
        return length;
    }

    // --- reading

    private void need(int at, long n) {
        if (at + n > in.length) {
            throw new Fault(1, in.length);
        }
    }

    private boolean isSpare(int at) {
        return in[at] / 16 == 5 && in[at + 1] == 42 && in[at + 2] == 77 && in[at + 3] == 24;
    }

    private long numberAt(int at) {
        return in[at] + 256L * in[at + 1] + 65536L * in[at + 2] + 16777216L * in[at + 3];
    }

    private int[] blockRead(int from, int end, int[] ahead, int most) {
        return new BlockRead(from, end, ahead, most).row();
    }

    /** Reads a block byte by byte, in the order in which its bytes stand. */
    private final class BlockRead {
        private final int end;
        private final int ahead;
        private final int most;
        private final List<Integer> row = new ArrayList<>();
        private int at;

        BlockRead(int from, int end, int[] ahead, int most) {
            this.at = from;
            this.end = end;
            this.ahead = ahead.length;
            this.most = most;
            for (int value : ahead) {
                row.add(value);
            }
            boolean more = true;
            while (more) {
                more = readSequence();
            }
        }

        int[] row() {
            return row.stream().skip(ahead).mapToInt(Integer::intValue).toArray();
        }

        private int next() {
            if (at >= end) {
                throw new Fault(1, end);
            }
            return in[at++];
        }

        private int half(int value) {
            int total = value;
            int added = value == 15 ? 255 : 0;
            while (added == 255) {
                added = next();
                total += added;
            }
            return total;
        }

        private boolean readSequence() {
            int token = next();
            int literals = half(token / 16);
            for (int i = 0; i < literals; i++) {
                int literal = next();
                if (row.size() - ahead == most) {
                    throw new Fault(3, at - 1);
                }
                row.add(literal);
            }
            if (at == end) {
                return false;
            }
            int distanceAt = at;
            int low = next();
            int distance = low + 256 * next();
            if (distance == 0 || distance > row.size()) {
                throw new Fault(2, distanceAt);
            }
            int length = half(token % 16) + 4;
            if (row.size() - ahead + length > most) {
                throw new Fault(3, distanceAt);
            }
            for (int i = 0; i < length; i++) {
                row.add(row.get(row.size() - distance));
            }
            return true;
        }
    }

    /** Reads a frame from its FLAGS on. */
    private final class FrameRead {
        private int[] content = {};
        private int at;

        FrameRead(int from, int most) {
            at = from;
            need(at, 1);
            int flags = in[at];
            if (flags < 64 || flags > 127 || flags % 4 > 1) {
                throw new Fault(5, at);
            }
            need(at, 2);
            int k = in[at + 1] / 16;
            if (in[at + 1] % 16 != 0 || k < 4 || k > 7) {
                throw new Fault(5, at + 1);
            }
            at += 2;
            int sizeAt = at;
            at += ((flags & 8) != 0 ? 8 : 0) + ((flags & 1) != 0 ? 4 : 0);
            need(at, 1);
            if (narrowSum(Arrays.copyOfRange(in, from, at)) / 256 % 256 != in[at]) {
                throw new Fault(6, at);
            }
            at++;
            boolean more = true;
            while (more) {
                more = readBlock(flags, 1L << 8 + 2 * k, most);
            }
            if ((flags & 4) != 0) {
                need(at, 4);
                if (numberAt(at) != narrowSum(content)) {
                    throw new Fault(10, at);
                }
                at += 4;
            }
            if ((flags & 8) != 0 && (numberAt(sizeAt) != content.length || numberAt(sizeAt + 4) != 0)) {
                throw new Fault(11, sizeAt);
            }
        }

        private boolean readBlock(int flags, long greatest, int most) {
            need(at, 4);
            long number = numberAt(at);
            if (number == 0) {
                at += 4;
                return false;
            }
            boolean itself = number >= 1L << 31;
            long m = number % (1L << 31);
            if (m > greatest) {
                throw new Fault(7, at);
            }
            int from = at + 4;
            need(from, m);
            int end = from + (int) m;
            int[] bytes = Arrays.copyOfRange(in, from, end);
            at = end;
            if ((flags & 16) != 0) {
                need(end, 4);
                if (numberAt(end) != narrowSum(bytes)) {
                    throw new Fault(8, end);
                }
                at += 4;
            }
            int room = most - content.length;
            if (itself && m > room) {
                throw new Fault(3, from + room);
            }
            int[] ahead = (flags & 32) != 0 ? history : joined(history, content);
            content = joined(content, itself ? bytes : inFrame(from, end, ahead, room));
            return true;
        }

        private int[] inFrame(int from, int end, int[] ahead, int room) {
            try {
                return blockRead(from, end, ahead, room);
            } catch (Fault fault) {
                throw fault.number == 1 ? new Fault(9, fault.place) : fault;
            }
        }
    }

    // --- rows and sums

    private static int[] joined(int[] first, int[] second) {
        int[] both = Arrays.copyOf(first, first.length + second.length);
        System.arraycopy(second, 0, both, first.length, second.length);
        return both;
    }

    private static int[] number(long value) {
        return new int[] {
            (int) (value & 255), (int) (value >> 8 & 255), (int) (value >> 16 & 255), (int) (value >> 24 & 255)
        };
    }

    static long narrowSum(int[] row) {
        int at = 0;
        long h = P5;
        if (row.length >= 16) {
            long[] lanes = {P1 + P2 & WORD, P2, 0, -P1 & WORD};
            while (row.length - at >= 16) {
                for (int i = 0; i < 4; i++) {
                    lanes[i] = times(turned(lanes[i] + times(wordAt(row, at), P2), 13), P1);
                    at += 4;
                }
            }
            h = turned(lanes[0], 1) + turned(lanes[1], 7) + turned(lanes[2], 12) + turned(lanes[3], 18);
        }
        h = h + row.length & WORD;
        while (row.length - at >= 4) {
            h = times(turned(h + times(wordAt(row, at), P3), 17), P4);
            at += 4;
        }
        while (at < row.length) {
            h = times(turned(h + times(row[at], P5), 11), P1);
            at++;
        }
        h = times(h ^ h >> 15, P2);
        h = times(h ^ h >> 13, P3);
        return h ^ h >> 16;
    }

    private static long wordAt(int[] row, int at) {
        return row[at] | (long) row[at + 1] << 8 | (long) row[at + 2] << 16 | (long) row[at + 3] << 24;
    }

    private static long times(long a, long b) {
        return a * b & WORD;
    }

    private static long turned(long value, int by) {
        long word = value & WORD;
        return (word << by | word >> 32 - by) & WORD;
    }
}
