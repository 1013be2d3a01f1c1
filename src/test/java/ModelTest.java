import java.util.Arrays;
import java.util.Random;

/** Runs of calls, each compared answer by answer with the model; the runs are the same each time. */
public final class ModelTest {
    private static final int MOST_CALLS = 512;
    private static final int[] FLAGS = {64, 96, 80, 72, 68, 65, 124, 92, 125, 93, 105, 116};

    private final Checks checks = new Checks("against the model");
    private final Random random = new Random(20261115);
    private TokenFrames x;
    private Model model;
    private int run;
    private int calls;
    private final int[] blockFaults = new int[4];
    private final int[] frameFaults = new int[12];

    public static void main(String[] args) {
        ModelTest test = new ModelTest();
        test.packAndUnpack(1500, 200);
        test.packAndUnpack(12, 8000);
        test.frames(1500, 200);
        test.frames(12, 7000);
        test.spoiltBlocks(3000);
        test.spoiltFrames(6000);
        test.anything(600);
        test.allFaultsWereMet();
        test.checks.end();
    }

    private void allFaultsWereMet() {
        for (int fault = 1; fault < blockFaults.length; fault++) {
            checks.isTrue("fault " + fault + " of blocks was met often", blockFaults[fault] >= 20);
        }
        for (int fault = 1; fault < frameFaults.length; fault++) {
            checks.isTrue("fault " + fault + " of frames was met often", frameFaults[fault] >= 20);
        }
    }

    private void packAndUnpack(int runs, int most) {
        for (int i = 0; i < runs; i++) {
            begin();
            fillHistory(most);
            fill(most);
            for (int way = 0; way < 4; way++) {
                block(way);
                look();
            }
            turn();
            unblock(8000);
            look();
            turn();
            sum();
        }
    }

    private void frames(int runs, int most) {
        for (int i = 0; i < runs; i++) {
            begin();
            fillHistory(most);
            fill(most);
            int cut = 1 + random.nextInt(1 + random.nextInt(most));
            frame(anyFlags(), 4 + random.nextInt(4), random.nextInt(), cut, random.nextInt(4));
            look();
            turn();
            sum();
            unframe(8000);
            look();
            turn();
            sum();
        }
    }

    private void spoiltBlocks(int runs) {
        for (int i = 0; i < runs; i++) {
            begin();
            fillHistory(40);
            fill(60);
            block(random.nextInt(4));
            loadSpoilt();
            fillHistoryAnew();
            unblock(random.nextInt(3) == 0 ? random.nextInt(80) : 8000);
            look();
        }
    }

    private void spoiltFrames(int runs) {
        for (int i = 0; i < runs; i++) {
            begin();
            fillHistory(30);
            fill(70);
            int cut = random.nextBoolean() ? 8000 : 1 + random.nextInt(30);
            frame(anyFlags(), 4 + random.nextInt(4), random.nextInt(), cut, random.nextInt(4));
            if (random.nextInt(6) == 0) {
                loadFrameWithWrongNumber();
            } else {
                loadSpoilt();
            }
            if (random.nextInt(3) == 0) {
                write(0x5A2A4D1803000000L, 8);
                write(0x010203L, 3);
            }
            if (random.nextInt(3) == 0) {
                again(model.inCount(), 1);
            }
            unframe(random.nextInt(3) == 0 ? random.nextInt(90) : 8000);
            look();
        }
    }

    /** All calls in any order, with arguments that are refused among them. */
    private void anything(int runs) {
        for (int i = 0; i < runs; i++) {
            begin();
            int steps = 20 + random.nextInt(60);
            for (int step = 0; step < steps && calls < MOST_CALLS - 20; step++) {
                anyCall();
                look();
            }
            sum();
            turn();
            sum();
        }
    }

    private void anyCall() {
        switch (random.nextInt(14)) {
            case 0, 1 -> write(bytes(random.nextInt(3)), random.nextInt(11) - 1);
            case 2, 3 -> again(random.nextInt(12) - 1, random.nextInt(8) - 1);
            case 4 -> again(random.nextInt(model.inCount() + 2), random.nextInt(70));
            case 5 -> clear();
            case 6 -> turn();
            case 7 -> remember();
            case 8 -> block(random.nextInt(6) - 1);
            case 9 -> unblock(random.nextInt(4) == 0 ? random.nextInt(8100) - 50 : 8000);
            case 10, 11 -> frame(random.nextInt(8) == 0 ? random.nextInt(300) : anyFlags(), 3 + random.nextInt(6),
                    random.nextInt(), random.nextInt(60), random.nextInt(4));
            case 12 -> unframe(random.nextInt(4) == 0 ? random.nextInt(8100) - 50 : 8000);
            default -> sum();
        }
    }

    private int anyFlags() {
        return FLAGS[random.nextInt(FLAGS.length)];
    }

    private void fillHistory(int most) {
        if (random.nextInt(3) > 0) {
            fill(most);
            remember();
        }
    }

    /** Now and then a block is read behind another HISTORY than it was written for. */
    private void fillHistoryAnew() {
        if (random.nextInt(6) == 0) {
            block(0);
            remember();
            turn();
        }
    }

    /** Letters of a few kinds and repetitions, so that there are matches of many lengths. */
    private void fill(int most) {
        int kinds = 1 + random.nextInt(4);
        int goal = random.nextInt(most + 1);
        for (int i = 0; i < 100 && model.inCount() < goal; i++) {
            int count = model.inCount();
            if (count > 0 && random.nextInt(3) == 0) {
                int m = 1 + random.nextInt(Math.min(count, 400));
                again(m, Math.min(1 + random.nextInt(random.nextInt(8) == 0 ? 90 : 3), (8000 - count) / m));
            } else {
                write(bytes(kinds), 1 + random.nextInt(8));
            }
        }
    }

    private long bytes(int kinds) {
        if (kinds == 4) {
            return random.nextLong();
        }
        long row = 0;
        for (int i = 0; i < 8; i++) {
            row = row << 8 | 97 + random.nextInt(kinds + 1);
        }
        return row;
    }

    /** IN becomes OUT with a byte of it changed, or cut, or with bytes behind it, or as it is. */
    private void loadSpoilt() {
        int[] row = outOfModel();
        int kind = row.length == 0 ? 0 : random.nextInt(4);
        if (kind == 1 || kind == 2) {
            int at = random.nextInt(kind == 1 ? row.length : Math.min(row.length, 20));
            row[at] = random.nextBoolean() ? random.nextInt(256) : row[at] ^ 1 << random.nextInt(8);
        }
        load(row, kind == 0 ? random.nextInt(row.length + 1) : row.length);
        if (kind == 3 && random.nextBoolean()) {
            write(random.nextLong(), 1 + random.nextInt(8));
        }
    }

    /** IN becomes the frame in OUT with another SIZE, or with a lower number ahead of its first block. */
    private void loadFrameWithWrongNumber() {
        int[] row = outOfModel();
        boolean sized = row.length > 4 && (row[4] & 8) != 0;
        int head = 7 + (sized ? 8 : 0) + (row.length > 4 && (row[4] & 1) != 0 ? 4 : 0);
        if (sized && random.nextBoolean()) {
            row[6 + random.nextInt(8)] ^= 1 << random.nextInt(8);
            row[head - 1] = (int) (Model.narrowSum(Arrays.copyOfRange(row, 4, head - 1)) >> 8 & 255);
        } else if (row.length > head && row[head] > 3) {
            row[head] -= 1 + random.nextInt(3);
        }
        load(row, row.length);
    }

    private int[] outOfModel() {
        int[] row = new int[model.size()];
        for (int k = 0; k < row.length; k++) {
            row[k] = model.byteAt(k);
        }
        return row;
    }

    private void load(int[] row, int n) {
        clear();
        for (int k = 0; k < n && calls < MOST_CALLS - 20; k++) {
            write(row[k], 1);
        }
    }

    // --- each call of both

    private void begin() {
        run++;
        calls = 0;
        x = new TokenFrames();
        model = new Model();
    }

    private void due(String call, long got, long want) {
        checks.due("run " + run + ", call " + calls + ": " + call, got, want);
    }

    private void write(long bytes, int n) {
        calls++;
        due("write(" + bytes + ", " + n + ")", x.write(bytes, n) ? 1 : 0, model.write(bytes, n) ? 1 : 0);
    }

    private void again(int m, int n) {
        calls++;
        due("again(" + m + ", " + n + ")", x.again(m, n) ? 1 : 0, model.again(m, n) ? 1 : 0);
    }

    private void clear() {
        calls++;
        x.clear();
        model.clear();
    }

    private void turn() {
        calls++;
        x.turn();
        model.turn();
    }

    private void remember() {
        calls++;
        x.remember();
        model.remember();
    }

    private void block(int way) {
        calls++;
        due("block(" + way + ")", x.block(way), model.block(way));
    }

    private void unblock(int most) {
        calls++;
        int want = model.unblock(most);
        due("unblock(" + most + ")", x.unblock(most), want);
        if (want < 0 && want > -blockFaults.length) {
            blockFaults[-want]++;
        }
    }

    private void frame(int flags, int k, int key, int cut, int way) {
        calls++;
        due("frame(" + flags + ", " + k + ", " + key + ", " + cut + ", " + way + ")",
                x.frame(flags, k, key, cut, way), model.frame(flags, k, key, cut, way));
    }

    private void unframe(int most) {
        calls++;
        int want = model.unframe(most);
        due("unframe(" + most + ")", x.unframe(most), want);
        if (want < 0 && want > -frameFaults.length) {
            frameFaults[-want]++;
        }
    }

    private void sum() {
        calls++;
        due("sum()", x.sum(), model.sum());
    }

    private void look() {
        calls += 4;
        due("place()", x.place(), model.place());
        due("size()", x.size(), model.size());
        int k = random.nextInt(model.size() + 2) - 1;
        due("byteAt(" + k + ")", x.byteAt(k), model.byteAt(k));
        k = random.nextInt(Math.min(model.size() + 1, 12));
        due("byteAt(" + k + ")", x.byteAt(k), model.byteAt(k));
    }
}
