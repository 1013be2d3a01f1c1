import java.util.Arrays;

/**
 * Rows of bytes packed by tokens, copies and literals: blocks, and frames of blocks with sums.
 *
 * <p>All rows are made once, by the constructor, and used again: no call makes an object.
 */
public final class TokenFrames {
    private static final int ROOM = 8000;

    /** A half of a TOKEN with this value has bytes added to it. */
    private static final int GROWS = 15;
    private static final int SHORTEST_COPY = 4;

    private static final int FRAME_MARK = 0x184D2204;
    private static final int SPARE_MARK = 0x184D2A50;
    private static final int SPARE_MARK_BITS = 0xFFFFFFF0;

    private static final int FLAG_ALWAYS = 64;
    private static final int FLAG_ALONE = 32;
    private static final int FLAG_BLOCK_SUMS = 16;
    private static final int FLAG_SIZE = 8;
    private static final int FLAG_CONTENT_SUM = 4;
    private static final int FLAG_KEY = 1;
    private static final int FLAGS_OF_CHOICE =
            FLAG_ALONE | FLAG_BLOCK_SUMS | FLAG_SIZE | FLAG_CONTENT_SUM | FLAG_KEY;

    private static final int STANDS_FOR_ITSELF = 0x80000000;

    private static final int FAULT_ENDS = 1;
    private static final int FAULT_DISTANCE = 2;
    private static final int FAULT_TOO_MANY = 3;
    private static final int FAULT_BEGINNING = 4;
    private static final int FAULT_FLAGS = 5;
    private static final int FAULT_HEAD_SUM = 6;
    private static final int FAULT_NUMBER = 7;
    private static final int FAULT_BLOCK_SUM = 8;
    private static final int FAULT_BLOCK_ENDS = 9;
    private static final int FAULT_CONTENT_SUM = 10;
    private static final int FAULT_SIZE = 11;
    private static final int REFUSED_UNBLOCK = 4;
    private static final int REFUSED_UNFRAME = 12;

    private final Row in;
    private final Row out;
    private final Row history;
    /** What a call makes, until it is sure that OUT becomes it. */
    private final Row draft;
    private final BlockWriter blockWriter;
    private final FrameWriter frameWriter;
    private final BlockReader blockReader;
    private final FrameReader frameReader;
    private int place;

    public TokenFrames() {
        in = new Row(ROOM);
        out = new Row(ROOM);
        history = new Row(ROOM);
        draft = new Row(ROOM);
        blockWriter = new BlockWriter(history);
        frameWriter = new FrameWriter(in, draft, blockWriter);
        blockReader = new BlockReader(in, history, draft);
        frameReader = new FrameReader(in, draft, blockReader);
    }

    public boolean write(long bytes, int n) {
        if (n < 1 || n > 8 || !in.hasRoomFor(n)) {
            return false;
        }
        for (int i = n - 1; i >= 0; i--) {
            in.add((int) (bytes >>> (8 * i)));
        }
        return true;
    }

    public boolean again(int m, int n) {
        if (m < 1 || m > in.count() || n < 0 || !in.hasRoomFor((long) m * n)) {
            return false;
        }
        for (int i = 0; i < n; i++) {
            in.addFrom(in, in.count() - m, in.count());
        }
        return true;
    }

    public void clear() {
        in.cutTo(0);
    }

    public void turn() {
        in.become(out);
    }

    public void remember() {
        history.become(in);
        in.cutTo(0);
    }

    public int block(int way) {
        if (!isWay(way)) {
            return -1;
        }
        draft.cutTo(0);
        blockWriter.startOver();
        boolean fits = blockWriter.pack(in, 0, in.count(), way, draft);
        return fits ? keepDraft() : -1;
    }

    public int unblock(int most) {
        if (!isMost(most)) {
            return -REFUSED_UNBLOCK;
        }
        draft.cutTo(0);
        int fault = blockReader.read(0, in.count(), 0, most);
        place = blockReader.where();
        return fault == 0 ? keepDraft() : -fault;
    }

    public int frame(int flags, int k, int key, int cut, int way) {
        if (!areFlags(flags) || !isK(k) || cut < 1 || cut > ROOM || !isWay(way)) {
            return -1;
        }
        boolean fits = frameWriter.writeFrame(flags, k, key, cut, way);
        return fits ? keepDraft() : -1;
    }

    public int unframe(int most) {
        if (!isMost(most)) {
            return -REFUSED_UNFRAME;
        }
        draft.cutTo(0);
        int fault = frameReader.readFrames(most);
        place = frameReader.where();
        return fault == 0 ? keepDraft() : -fault;
    }

    public int place() {
        return place;
    }

    public int sum() {
        return NarrowSum.of(in, 0, in.count());
    }

    public int size() {
        return out.count();
    }

    public int byteAt(int k) {
        return out.get(k);
    }

    private int keepDraft() {
        out.become(draft);
        return out.count();
    }

    private static boolean isWay(int way) {
        return way >= 0 && way <= 3;
    }

    private static boolean isMost(int most) {
        return most >= 0 && most <= ROOM;
    }

    private static boolean areFlags(int flags) {
        return (flags & ~FLAGS_OF_CHOICE) == FLAG_ALWAYS;
    }

    private static boolean isK(int k) {
        return k >= 4 && k <= 7;
    }

    /** A row of bytes that never outgrows the array it was made with. */
    private static final class Row {
        private final byte[] bytes;
        private int count;

        Row(int room) {
            bytes = new byte[Math.max(0, room)];
        }

        int count() {
            return count;
        }

        boolean hasRoomFor(long n) {
            return n <= bytes.length - count;
        }

        int get(int k) {
            return k >= 0 && k < count && k < bytes.length ? bytes[k] & 255 : -1;
        }

        /** Two bytes, lowest first; 0 where the row has not both. */
        int pair(int k) {
            if (k < 0 || k > count - 2 || count > bytes.length) {
                return 0;
            }
            return (bytes[k] & 255) | (bytes[k + 1] & 255) << 8;
        }

        /** Four bytes, lowest first; 0 where the row has not all of them. */
        int word(int k) {
            if (k < 0 || k > count - 4 || count > bytes.length) {
                return 0;
            }
            return (bytes[k] & 255) | (bytes[k + 1] & 255) << 8
                    | (bytes[k + 2] & 255) << 16 | (bytes[k + 3] & 255) << 24;
        }

        /** How many bytes from p on, all before end, are those from q on. */
        int same(int q, int p, int end) {
            int possible = Math.min(end, count) - p;
            if (q < 0 || q > p || count > bytes.length) {
                return 0;
            }
            for (int i = 0; i < possible; i++) {
                if (bytes[q + i] != bytes[p + i]) {
                    return i;
                }
            }
            return Math.max(0, possible);
        }

        boolean add(int value) {
            if (count < 0 || count >= bytes.length) {
                return false;
            }
            bytes[count] = (byte) value;
            count++;
            return true;
        }

        boolean addWord(int value) {
            return add(value) && add(value >> 8) && add(value >> 16) && add(value >> 24);
        }

        boolean addFrom(Row other, int from, int upTo) {
            int n = upTo - from;
            if (from < 0 || n < 0 || upTo > other.count || n > bytes.length - count) {
                return false;
            }
            System.arraycopy(other.bytes, from, bytes, count, n);
            count += n;
            return true;
        }

        void cutTo(int n) {
            count = Math.max(0, Math.min(count, n));
        }

        void become(Row other) {
            cutTo(0);
            addFrom(other, 0, other.count);
        }
    }

    /** THE NARROW SUM, with the seed 0. */
    private static final class NarrowSum {
        private static final int P1 = (int) 2654435761L;
        private static final int P2 = (int) 2246822519L;
        private static final int P3 = (int) 3266489917L;
        private static final int P4 = 668265263;
        private static final int P5 = 374761393;

        static int of(Row row, int from, int upTo) {
            int n = upTo - from;
            int at = from + n / 16 * 16;
            int h = n >= 16 ? ofLanes(row, from, at) : P5;
            h += n;
            for (; upTo - at >= 4; at += 4) {
                h = rotated(h + row.word(at) * P3, 17) * P4;
            }
            for (; at < upTo; at++) {
                h = rotated(h + row.get(at) * P5, 11) * P1;
            }
            h = (h ^ h >>> 15) * P2;
            h = (h ^ h >>> 13) * P3;
            return h ^ h >>> 16;
        }

        private static int ofLanes(Row row, int from, int upTo) {
            int first = P1 + P2;
            int second = P2;
            int third = 0;
            int fourth = -P1;
            for (int at = from; at < upTo; at += 16) {
                first = lane(first, row.word(at));
                second = lane(second, row.word(at + 4));
                third = lane(third, row.word(at + 8));
                fourth = lane(fourth, row.word(at + 12));
            }
            return rotated(first, 1) + rotated(second, 7) + rotated(third, 12) + rotated(fourth, 18);
        }

        private static int lane(int lane, int word) {
            return rotated(lane + word * P2, 13) * P1;
        }

        private static int rotated(int x, int by) {
            return x << by | x >>> (32 - by);
        }
    }

    /**
     * The DATA of a block and the matches in it.
     *
     * <p>Places whose four bytes share a slot are chained from the latest back, so that the nearest
     * match is met first and places without one are hardly ever looked at.
     */
    private static final class Matches {
        private static final int SLOT_BITS = 12;
        private static final int SPREAD = (int) 2654435761L;

        private final Row data;
        private final int[] latest;
        private final int[] earlier;
        /** How many places, from 0 on, are in the chains. */
        private int chained;
        private int source;
        private int length;

        Matches() {
            data = new Row(2 * ROOM);
            latest = new int[1 << SLOT_BITS];
            earlier = new int[2 * ROOM];
        }

        Row data() {
            return data;
        }

        /** Where the match that was found last begins. */
        int source() {
            return source;
        }

        void startOver(Row history) {
            data.become(history);
            Arrays.fill(latest, -1);
            chained = 0;
        }

        /**
         * Cuts the data to n bytes. A place goes out of its chain when one of its four bytes goes,
         * the latest place first, so that each slot gets back what it held before.
         */
        void cutTo(int n) {
            int whole = Math.max(0, n - 3);
            for (int q = Math.min(chained, earlier.length) - 1; q >= whole; q--) {
                setLatest(slot(data.word(q)), earlier[q]);
            }
            chained = Math.min(chained, whole);
            data.cutTo(n);
        }

        /** The LENGTH of the match that the way takes at p, 0 when it takes none. */
        int look(int p, int end, int last, int way) {
            chainBelow(p);
            find(p, end, way);
            if (way != 3 || length == 0 || p >= last) {
                return length;
            }
            int lengthHere = length;
            int sourceHere = source;
            chainBelow(p + 1);
            find(p + 1, end, way);
            length = length > lengthHere ? 0 : lengthHere;
            source = sourceHere;
            return length;
        }

        private void find(int p, int end, int way) {
            source = -1;
            length = 0;
            int enough = enough(end - p, way);
            int q = latest(slot(data.word(p)));
            for (int i = 0; i < p && q >= 0 && q < earlier.length; i++) {
                // A place that differs here can't have a longer match than the one that is held.
                if (data.get(q + length) == data.get(p + length)) {
                    hold(q, data.same(q, p, end), enough, way);
                }
                if (length >= enough) {
                    return;
                }
                q = earlier[q];
            }
        }

        /** The LENGTH that none further back can better. */
        private static int enough(int possible, int way) {
            if (way >= 2) {
                return possible;
            }
            return way == 1 && possible >= 8 ? 8 : SHORTEST_COPY;
        }

        private void hold(int q, int same, int enough, int way) {
            boolean better = length == 0 || same >= enough || way >= 2 && same > length;
            if (same >= SHORTEST_COPY && better) {
                source = q;
                length = same;
            }
        }

        private void chainBelow(int p) {
            for (; chained < p && chained < earlier.length; chained++) {
                int slot = slot(data.word(chained));
                earlier[chained] = latest(slot);
                setLatest(slot, chained);
            }
        }

        private int latest(int slot) {
            return slot >= 0 && slot < latest.length ? latest[slot] : -1;
        }

        private void setLatest(int slot, int place) {
            if (slot >= 0 && slot < latest.length) {
                latest[slot] = place;
            }
        }

        private static int slot(int word) {
            return word * SPREAD >>> (32 - SLOT_BITS);
        }
    }

    private static final class BlockWriter {
        private static final int LITERALS_AT_END = 5;
        private static final int NO_MATCH_AT_END = 12;

        private final Row history;
        private final Matches matches;
        private final Row data;

        BlockWriter(Row history) {
            this.history = history;
            matches = new Matches();
            data = matches.data();
        }

        /** The data become HISTORY, whatever they were before. */
        void startOver() {
            matches.startOver(history);
        }

        /** The data become HISTORY again, when they began with it. */
        void dropContent() {
            matches.cutTo(history.count());
        }

        /** Puts the row's bytes behind the data and appends the block for them: false when it can't. */
        boolean pack(Row row, int from, int upTo, int way, Row to) {
            int literals = data.count();
            if (!data.addFrom(row, from, upTo)) {
                return false;
            }
            int end = data.count() - LITERALS_AT_END;
            int last = data.count() - NO_MATCH_AT_END;
            int length;
            for (int p = literals; p <= last; p += Math.max(1, length)) {
                length = matches.look(p, end, last, way);
                if (length > 0) {
                    int b = length - SHORTEST_COPY;
                    if (!addLiterals(literals, p, b, to) || !addCopy(p - matches.source(), b, to)) {
                        return false;
                    }
                    literals = p + length;
                }
            }
            return addLiterals(literals, data.count(), 0, to);
        }

        private boolean addLiterals(int from, int upTo, int b, Row to) {
            int a = upTo - from;
            int token = Math.min(a, GROWS) << 4 | Math.min(b, GROWS);
            return to.add(token) && addGrowth(a, to) && to.addFrom(data, from, upTo);
        }

        private static boolean addCopy(int distance, int b, Row to) {
            return to.add(distance) && to.add(distance >> 8) && addGrowth(b, to);
        }

        private static boolean addGrowth(int n, Row to) {
            if (n < GROWS) {
                return true;
            }
            int left = n - GROWS;
            for (; left >= 255; left -= 255) {
                if (!to.add(255)) {
                    return false;
                }
            }
            return to.add(left);
        }
    }

    private static final class FrameWriter {
        private final Row in;
        private final Row to;
        private final BlockWriter blocks;
        private final Row packed;

        FrameWriter(Row in, Row to, BlockWriter blocks) {
            this.in = in;
            this.to = to;
            this.blocks = blocks;
            packed = new Row(ROOM);
        }

        /** False when the frame has no room. */
        boolean writeFrame(int flags, int k, int key, int cut, int way) {
            to.cutTo(0);
            boolean fits = addHead(flags, k, key);
            blocks.startOver();
            int step = Math.max(1, cut);
            for (int from = 0; from < in.count() && fits; from += step) {
                fits = addRow(from, Math.min(in.count(), from + step), flags, way);
            }
            return fits && addTail(flags);
        }

        private boolean addHead(int flags, int k, int key) {
            boolean fits = to.addWord(FRAME_MARK);
            int first = to.count();
            fits = fits && to.add(flags) && to.add(16 * k);
            if ((flags & FLAG_SIZE) != 0) {
                fits = fits && to.addWord(in.count()) && to.addWord(0);
            }
            if ((flags & FLAG_KEY) != 0) {
                fits = fits && to.addWord(key);
            }
            return fits && to.add(NarrowSum.of(to, first, to.count()) >> 8);
        }

        private boolean addRow(int from, int upTo, int flags, int way) {
            if ((flags & FLAG_ALONE) != 0) {
                blocks.dropContent();
            }
            packed.cutTo(0);
            int n = upTo - from;
            // A block without room in its row has more bytes than any row of the content.
            boolean shorter = blocks.pack(in, from, upTo, way, packed) && packed.count() < n;
            boolean fits = to.addWord(shorter ? packed.count() : n | STANDS_FOR_ITSELF);
            int first = to.count();
            fits = fits && (shorter ? to.addFrom(packed, 0, packed.count()) : to.addFrom(in, from, upTo));
            if ((flags & FLAG_BLOCK_SUMS) != 0) {
                fits = fits && to.addWord(NarrowSum.of(to, first, to.count()));
            }
            return fits;
        }

        private boolean addTail(int flags) {
            boolean fits = to.addWord(0);
            if ((flags & FLAG_CONTENT_SUM) != 0) {
                fits = fits && to.addWord(NarrowSum.of(in, 0, in.count()));
            }
            return fits;
        }
    }

    /** Reads a block; each step answers the number of the fault that it meets, or 0. */
    private static final class BlockReader {
        private final Row in;
        private final Row history;
        private final Row to;
        private int at;
        private int end;
        /** Where, in the row that is read to, the bytes behind HISTORY begin. */
        private int start;
        private int most;
        private int distance;
        private int place;

        BlockReader(Row in, Row history, Row to) {
            this.in = in;
            this.history = history;
            this.to = to;
        }

        int where() {
            return place;
        }

        int read(int from, int end, int start, int most) {
            this.at = from;
            this.end = end;
            this.start = start;
            this.most = most;
            for (int i = from; i < end && at < end; i++) {
                int token = in.get(at);
                at++;
                int fault = takeLiterals(grown(token >> 4));
                if (fault == 0 && at >= end) {
                    place = end;
                    return 0;
                }
                int distanceAt = at;
                fault = fault != 0 ? fault : takeDistance();
                fault = fault != 0 ? fault : takeCopy(grown(token & 15), distanceAt);
                if (fault != 0) {
                    return fault;
                }
            }
            return fault(FAULT_ENDS, end);
        }

        private int fault(int number, int where) {
            place = where;
            return number;
        }

        /** A half of a TOKEN with the bytes that are added to it; -1 when the block ends within them. */
        private int grown(int half) {
            if (half < GROWS) {
                return half;
            }
            int total = half;
            for (; at < end; at++) {
                int added = in.get(at);
                total += added;
                if (added != 255) {
                    at++;
                    return total;
                }
            }
            return -1;
        }

        private int takeLiterals(int n) {
            if (n < 0) {
                return fault(FAULT_ENDS, end);
            }
            int taken = Math.min(n, Math.min(end - at, most - to.count()));
            to.addFrom(in, at, at + taken);
            at += taken;
            if (taken == n) {
                return 0;
            }
            return at >= end ? fault(FAULT_ENDS, end) : fault(FAULT_TOO_MANY, at);
        }

        private int takeDistance() {
            if (end - at < 2) {
                return fault(FAULT_ENDS, end);
            }
            distance = in.pair(at);
            if (distance == 0 || distance > history.count() + to.count() - start) {
                return fault(FAULT_DISTANCE, at);
            }
            at += 2;
            return 0;
        }

        private int takeCopy(int b, int distanceAt) {
            if (b < 0) {
                return fault(FAULT_ENDS, end);
            }
            int n = b + SHORTEST_COPY;
            if (n > most - to.count()) {
                return fault(FAULT_TOO_MANY, distanceAt);
            }
            for (int i = 0; i < n; i++) {
                int source = to.count() - distance;
                to.add(source >= start ? to.get(source) : history.get(history.count() + source - start));
            }
            return 0;
        }
    }

    /** Reads frames and spare bytes; each step answers the number of the fault that it meets, or 0. */
    private static final class FrameReader {
        private final Row in;
        private final Row to;
        private final BlockReader blocks;
        private int at;
        private int most;
        private int flags;
        private int greatest;
        private int sizeAt;
        /** Where, in the row that is read to, the frame's content begins. */
        private int start;
        private int place;

        FrameReader(Row in, Row to, BlockReader blocks) {
            this.in = in;
            this.to = to;
            this.blocks = blocks;
        }

        int where() {
            return place;
        }

        int readFrames(int most) {
            this.most = most;
            at = 0;
            for (int i = 0; i < in.count() && at < in.count(); i++) {
                int mark = in.word(at);
                int fault;
                if (left() < 4) {
                    fault = cut();
                } else if (mark == FRAME_MARK) {
                    fault = readFrame();
                } else if ((mark & SPARE_MARK_BITS) == SPARE_MARK) {
                    fault = passSpare();
                } else {
                    fault = fault(FAULT_BEGINNING, at);
                }
                if (fault != 0) {
                    return fault;
                }
            }
            place = in.count();
            return 0;
        }

        private int left() {
            return in.count() - at;
        }

        private int fault(int number, int where) {
            place = where;
            return number;
        }

        private int cut() {
            return fault(FAULT_ENDS, in.count());
        }

        private boolean has(int flag) {
            return (flags & flag) != 0;
        }

        private int passSpare() {
            at += 4;
            if (left() < 4) {
                return cut();
            }
            long n = in.word(at) & 0xFFFFFFFFL;
            at += 4;
            if (left() < n) {
                return cut();
            }
            at += (int) n;
            return 0;
        }

        private int readFrame() {
            at += 4;
            start = to.count();
            int first = at;
            int fault = readFlags();
            fault = fault != 0 ? fault : readHead(first);
            for (int i = at; i < in.count() && fault == 0; i++) {
                if (left() < 4) {
                    return cut();
                }
                int number = in.word(at);
                if (number == 0) {
                    at += 4;
                    return readTail();
                }
                fault = readBlock(number);
            }
            return fault != 0 ? fault : cut();
        }

        /** FLAGS are looked at even when the byte behind them is cut off. */
        private int readFlags() {
            if (left() < 1) {
                return cut();
            }
            flags = in.get(at);
            if (!areFlags(flags)) {
                return fault(FAULT_FLAGS, at);
            }
            at++;
            if (left() < 1) {
                return cut();
            }
            int k = in.get(at) >> 4;
            if (!isK(k) || in.get(at) != 16 * k) {
                return fault(FAULT_FLAGS, at);
            }
            at++;
            greatest = 1 << (8 + 2 * k);
            return 0;
        }

        private int readHead(int first) {
            sizeAt = at;
            int n = (has(FLAG_SIZE) ? 8 : 0) + (has(FLAG_KEY) ? 4 : 0);
            if (left() < n + 1) {
                return cut();
            }
            at += n;
            if (in.get(at) != (NarrowSum.of(in, first, at) >> 8 & 255)) {
                return fault(FAULT_HEAD_SUM, at);
            }
            at++;
            return 0;
        }

        /**
         * What a block stands for needs no bound of its own: the least one of a frame, 65536 bytes, is
         * beyond the room that there is for all.
         */
        private int readBlock(int number) {
            int m = number & ~STANDS_FOR_ITSELF;
            if (m > greatest) {
                return fault(FAULT_NUMBER, at);
            }
            at += 4;
            int sumBytes = has(FLAG_BLOCK_SUMS) ? 4 : 0;
            if (left() < m + sumBytes) {
                return cut();
            }
            int from = at;
            at += m;
            if (sumBytes > 0 && in.word(at) != NarrowSum.of(in, from, at)) {
                return fault(FAULT_BLOCK_SUM, at);
            }
            int end = at;
            at += sumBytes;
            if (number < 0) {
                return takeBytes(from, end);
            }
            int fault = blocks.read(from, end, has(FLAG_ALONE) ? to.count() : start, most);
            return fault(fault == FAULT_ENDS ? FAULT_BLOCK_ENDS : fault, blocks.where());
        }

        private int takeBytes(int from, int end) {
            int room = most - to.count();
            if (end - from > room) {
                return fault(FAULT_TOO_MANY, from + room);
            }
            to.addFrom(in, from, end);
            return 0;
        }

        private int readTail() {
            if (has(FLAG_CONTENT_SUM)) {
                if (left() < 4) {
                    return cut();
                }
                if (in.word(at) != NarrowSum.of(to, start, to.count())) {
                    return fault(FAULT_CONTENT_SUM, at);
                }
                at += 4;
            }
            if (has(FLAG_SIZE) && !sizeIs(to.count() - start)) {
                return fault(FAULT_SIZE, sizeAt);
            }
            return 0;
        }

        private boolean sizeIs(int n) {
            return in.word(sizeAt) == n && in.word(sizeAt + 4) == 0;
        }
    }
}
