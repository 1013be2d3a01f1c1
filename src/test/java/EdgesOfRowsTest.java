import java.util.function.ToLongFunction;

/**
 * Each sentence that names an edge of the object, of its rows, of PLACE or of the sum: promises 1 to 6 and 11
 * to 14, and what they rest on. A test bears the promise and the sentence in its name.
 */
public final class EdgesOfRowsTest extends Parts {
    private static final int LEAST = Integer.MIN_VALUE;
    private static final int GREATEST = Integer.MAX_VALUE;
    private static final String EIGHT_THOUSAND_A = copy("61", 1, 7999) + "00";
    private static final Held HELD = new Held("c1 c2 c3 c4 c5 c6", "0a 0b 0c", "07 08 09", 5);

    private final Checks checks = new Checks("edges of promises 1 to 6, 11 to 14");

    public static void main(String[] args) {
        EdgesOfRowsTest test = new EdgesOfRowsTest();
        Sentences.run(test, test.checks);
    }

    /** A call that answers so, and that leaves all as it was. */
    private void keeps(Held held, String call, long answer, ToLongFunction<TokenFrames> asked) {
        TokenFrames x = held.make();
        checks.due(call, asked.applyAsLong(x), answer);
        held.check(checks, call, x);
    }

    private void writeKeeps(Held held, int n) {
        keeps(held, "write(5, " + n + ")", 0, x -> x.write(5, n) ? 1 : 0);
    }

    private void againKeeps(Held held, int m, int n, boolean answer) {
        keeps(held, "again(" + m + ", " + n + ")", answer ? 1 : 0, x -> x.again(m, n) ? 1 : 0);
    }

    private static String run(int n) {
        return Rows.times(n, "61");
    }

    private static TokenFrames withRun(int n) {
        return Rows.with(run(n));
    }

    /** OUT becomes 8000 times "a"; IN becomes the block for it. */
    private static TokenFrames withFullOut() {
        TokenFrames x = Rows.with(EIGHT_THOUSAND_A);
        x.unblock(8000);
        return x;
    }

    // --- What it is

    @Says("What it is: An object is used for at most 512 calls after it has been made")
    void whatItIsTheLastOf512CallsIsAnsweredAsTheFirst() {
        TokenFrames x = new TokenFrames();
        StringBuilder row = new StringBuilder();
        for (int call = 1; call < 512; call++) {
            checks.isTrue("call " + call + ", write", x.write(call, 8));
            row.append(String.format("%016x", call));
        }
        checks.due("call 512, sum()", x.sum(), (int) Rows.sum(row.toString()));
        x = new TokenFrames();
        for (int call = 1; call <= 500; call++) {
            checks.isTrue("call " + call + ", a refused write", !x.write(call, 0));
        }
        x.write(0x616263, 3);
        x.again(3, 20);
        checks.due("call 503, block(2)", x.block(2), 13);
        x.turn();
        checks.due("call 505, unblock(8000)", x.unblock(8000), 63);
        checks.due("call 506, place()", x.place(), 13);
        checks.due("call 507, frame", x.frame(64, 4, 0, 8000, 2), 7 + 4 + 13 + 4);
        x.turn();
        checks.due("call 509, unframe(8000)", x.unframe(8000), 13);
        checks.due("call 510, place()", x.place(), 28);
        checks.due("call 511, size()", x.size(), 13);
        checks.due("call 512, byteAt(12)", x.byteAt(12), 0x63);
    }

    // --- Terms

    @Says("Terms: IN, OUT and HISTORY are rows of at most 8000 bytes")
    void termsInIsOfAtMost8000Bytes() {
        TokenFrames written = withRun(7992);
        checks.isTrue("write up to 8000 bytes", written.write(0x6161616161616161L, 8));
        TokenFrames repeated = withRun(4000);
        checks.isTrue("again up to 8000 bytes", repeated.again(4000, 1));
        TokenFrames turned = withFullOut();
        turned.turn();
        for (TokenFrames x : new TokenFrames[] {written, repeated, turned}) {
            checks.isTrue("write of the 8001st byte", !x.write(0x61, 1));
            checks.isTrue("again of the 8001st byte", !x.again(1, 1));
            checks.isTrue("IN has 8000 bytes", x.again(8000, 0));
            checks.isTrue("IN has not 8001 bytes", !x.again(8001, 0));
            checks.due("sum of 8000 bytes", x.sum(), (int) Rows.sum(run(8000)));
        }
    }

    @Says("Terms: IN, OUT and HISTORY are rows of at most 8000 bytes")
    void termsOutIsOfAtMost8000Bytes() {
        TokenFrames block = Rows.withoutMatches(7967);
        checks.due("a block of 8000 bytes", block.block(0), 8000);
        block.write(1, 1);
        checks.due("a block of 8001 bytes", block.block(0), -1);
        TokenFrames unblock = withFullOut();
        Rows.load(unblock, copy("61", 1, 8000) + "00");
        checks.due("a block that stands for 8001 bytes", unblock.unblock(8000), -3);
        TokenFrames frame = Rows.withoutMatches(7985);
        checks.due("a frame of 8000 bytes", frame.frame(64, 4, 0, 8000, 0), 8000);
        frame.write(1, 1);
        checks.due("a frame of 8001 bytes", frame.frame(64, 4, 0, 8000, 0), -1);
        TokenFrames unframe = Rows.with(plainFrame(packed(EIGHT_THOUSAND_A)));
        checks.due("a content of 8000 bytes", unframe.unframe(8000), 8000);
        Rows.load(unframe, plainFrame(packed(EIGHT_THOUSAND_A) + itself("61")));
        checks.due("a content of 8001 bytes", unframe.unframe(8000), -3);
        for (TokenFrames x : new TokenFrames[] {block, unblock, frame, unframe}) {
            checks.due("size() of a full OUT", x.size(), 8000);
            checks.isTrue("byte 7999 of a full OUT", x.byteAt(7999) >= 0);
            checks.due("byte 8000 of a full OUT", x.byteAt(8000), -1);
        }
    }

    @Says("Terms: IN, OUT and HISTORY are rows of at most 8000 bytes")
    void termsHistoryIsOfAtMost8000Bytes() {
        TokenFrames x = Rows.with("c1");
        Rows.put(x, run(7999));
        x.remember();
        Rows.put(x, "00" + pair(8000) + "00");
        checks.due("a DISTANCE of 8000", x.unblock(8000), 4);
        checks.same("HISTORY's first bytes", Rows.out(x), "c1 61 61 61");
        Rows.load(x, "00" + pair(8001) + "00");
        checks.due("a DISTANCE of 8001", x.unblock(8000), -2);
        Rows.load(x, "c1 61 61 61 02 03 04 05 06 07 08 09");
        checks.due("a block whose match is HISTORY's first bytes", x.block(0), 1 + 2 + 1 + 8);
        checks.same("OUT of it", Rows.out(x), "00 40 1f 80 02 03 04 05 06 07 08 09");
    }

    @Says("Terms: empty at first")
    void termsInIsEmptyAtFirst() {
        TokenFrames x = new TokenFrames();
        checks.due("sum()", x.sum(), 0x02CC5D05);
        checks.isTrue("IN has not a byte", !x.again(1, 0));
        checks.due("block(0)", x.block(0), 1);
        checks.due("frame", x.frame(64, 4, 0, 1, 0), 11);
        checks.due("unblock(0)", x.unblock(0), -1);
        checks.due("place() of unblock", x.place(), 0);
        checks.due("unframe(0)", x.unframe(0), 0);
        checks.due("place() of unframe", x.place(), 0);
    }

    @Says("Terms: empty at first")
    void termsOutIsEmptyAtFirst() {
        TokenFrames x = new TokenFrames();
        checks.due("size()", x.size(), 0);
        checks.due("byteAt(0)", x.byteAt(0), -1);
        checks.due("byteAt(-1)", x.byteAt(-1), -1);
        x.write(7, 1);
        x.turn();
        checks.due("sum() of what OUT was", x.sum(), 0x02CC5D05);
        checks.isTrue("OUT had not a byte", !x.again(1, 0));
    }

    @Says("Terms: empty at first")
    void termsHistoryIsEmptyAtFirst() {
        TokenFrames x = Rows.with("00 01 00 00");
        checks.due("a DISTANCE of 1 behind nothing", x.unblock(8000), -2);
        checks.due("place() of it", x.place(), 1);
        Rows.load(x, "10 61 01 00 00");
        checks.due("a DISTANCE of 1 behind a literal", x.unblock(8000), 5);
        Rows.load(x, "10 61 02 00 00");
        checks.due("a DISTANCE of 2 behind a literal", x.unblock(8000), -2);
    }

    @Says("Terms: PLACE, 0 at first, is told with the calls")
    void termsPlaceIs0AtFirst() {
        TokenFrames x = new TokenFrames();
        checks.due("place() of a new object", x.place(), 0);
        x.write(0x10610000, 4);
        x.block(0);
        x.frame(64, 4, 0, 1, 0);
        x.sum();
        x.unblock(-1);
        x.unframe(8001);
        checks.due("place() before anything was read", x.place(), 0);
        x.unblock(8000);
        checks.due("place() of a fault", x.place(), 2);
    }

    // --- Promise 1

    @Says("Promise 1: All is as said.")
    void promise1ANewObjectHasNothingOfAnotherOne() {
        TokenFrames old = HELD.make();
        TokenFrames x = new TokenFrames();
        new Held("", "", "", 0).check(checks, "making another object", x);
        HELD.check(checks, "making another object", old);
    }

    // --- Promise 2

    @Says("Promise 2: Appends to IN the n lowest bytes of bytes, the highest of them first: true")
    void promise2TheNLowestBytesForEachN() {
        for (long bytes : new long[] {0x8182838485868788L, -1, 0, Long.MIN_VALUE, Long.MAX_VALUE, 255, 256}) {
            for (int n = 1; n <= 8; n++) {
                TokenFrames x = HELD.make();
                String call = "write(" + bytes + ", " + n + ")";
                checks.isTrue(call, x.write(bytes, n));
                String all = String.format("%016x", bytes);
                HELD.withIn(HELD.in() + all.substring(16 - 2 * n)).check(checks, call, x);
            }
        }
    }

    @Says("Promise 2: false, refused, when n is not 1 .. 8")
    void promise2RefusedWhenNIsNot1To8() {
        for (int n : new int[] {0, 9, -1, -8, 10, 16, 255, 257, 264, LEAST, LEAST + 1, LEAST + 8, GREATEST}) {
            writeKeeps(HELD, n);
            writeKeeps(HELD.withIn(""), n);
        }
        TokenFrames x = HELD.make();
        checks.isTrue("write(5, 1)", x.write(5, 1));
        checks.isTrue("write(5, 8)", x.write(5, 8));
        HELD.withIn(HELD.in() + "05 00 00 00 00 00 00 00 05").check(checks, "writes of 1 and of 8 bytes", x);
    }

    @Says("Promise 2: or there would be more than 8000")
    void promise2RefusedWhenThereWouldBeMoreThan8000() {
        for (int n = 1; n <= 8; n++) {
            TokenFrames x = withRun(8000 - n);
            checks.isTrue("write of " + n + " bytes up to 8000", x.write(0x6161616161616161L, n));
            checks.due("sum of 8000 bytes", x.sum(), (int) Rows.sum(run(8000)));
            writeKeeps(HELD.withIn(run(8001 - n)), n);
            writeKeeps(HELD.withIn(run(8000)), n);
        }
        writeKeeps(HELD.withIn(run(8000)), 0);
        writeKeeps(HELD.withIn(run(8000)), 9);
        // None of a refused call's bytes comes: there is room again for what fits.
        TokenFrames x = withRun(7996);
        checks.isTrue("write of 5 bytes behind 7996", !x.write(5, 5));
        checks.isTrue("write of 4 bytes behind 7996", x.write(0x61616161, 4));
        checks.due("sum of 8000 bytes", x.sum(), (int) Rows.sum(run(8000)));
    }

    // --- Promise 3

    @Says("Promise 3: Appends to IN n times its last m bytes.")
    void promise3NTimesTheLastMBytes() {
        for (int m = 1; m <= 3; m++) {
            String last = HELD.in().substring(3 * (3 - m)) + " ";
            for (int n = 0; n <= 4; n++) {
                TokenFrames x = HELD.make();
                String call = "again(" + m + ", " + n + ")";
                checks.isTrue(call, x.again(m, n));
                HELD.withIn(HELD.in() + last.repeat(n)).check(checks, call, x);
            }
        }
    }

    @Says("Promise 3: False, refused, when m is not 1 .. how many it has")
    void promise3RefusedWhenMIsNot1ToHowManyItHas() {
        for (int n : new int[] {0, 1, 2}) {
            for (int m : new int[] {0, 4, -1, -3, 5, 8000, 8001, LEAST, LEAST + 1, GREATEST}) {
                againKeeps(HELD, m, n, false);
            }
            for (int m : new int[] {0, 1, -1, 8000, LEAST, GREATEST}) {
                againKeeps(HELD.withIn(""), m, n, false);
            }
        }
        againKeeps(HELD, 1, 0, true);
        againKeeps(HELD, 3, 0, true);
        againKeeps(HELD.withIn("0a"), 1, 0, true);
        againKeeps(HELD.withIn("0a"), 2, 0, false);
        againKeeps(HELD.withIn(run(8000)), 8000, 0, true);
        againKeeps(HELD.withIn(run(8000)), 8001, 0, false);
        // What IN had before it was emptied is not there any more.
        TokenFrames x = HELD.make();
        x.clear();
        checks.isTrue("again(1, 0) of an IN that became empty", !x.again(1, 0));
    }

    @Says("Promise 3: n is below 0")
    void promise3RefusedWhenNIsBelow0() {
        for (int n : new int[] {-1, -2, -8000, LEAST, LEAST + 1}) {
            againKeeps(HELD, 1, n, false);
            againKeeps(HELD, 2, n, false);
            againKeeps(HELD, 3, n, false);
            againKeeps(HELD.withIn(run(8000)), 8000, n, false);
        }
        againKeeps(HELD, 2, 0, true);
        againKeeps(HELD.withIn(run(8000)), 1, 0, true);
    }

    @Says("Promise 3: or there would be more than 8000")
    void promise3RefusedWhenThereWouldBeMoreThan8000() {
        int[][] fits = {{1, 1, 7999}, {2, 2, 3999}, {3000, 2500, 2}, {4000, 4000, 1}, {5000, 3000, 1}, {7999, 1, 1}};
        for (int[] each : fits) {
            TokenFrames x = withRun(each[0]);
            String call = "again(" + each[1] + ", " + each[2] + ") behind " + each[0];
            checks.isTrue(call, x.again(each[1], each[2]));
            checks.due("sum after " + call, x.sum(), (int) Rows.sum(run(8000)));
        }
        int[][] tooMany = {{1, 1, 8000}, {2, 2, 4000}, {3000, 2501, 2}, {4001, 4000, 1}, {4001, 4001, 1},
            {5000, 3001, 1}, {8000, 1, 1}, {8000, 8000, 1}, {1, 1, GREATEST}, {8000, 8000, GREATEST}};
        for (int[] each : tooMany) {
            againKeeps(HELD.withIn(run(each[0])), each[1], each[2], false);
        }
    }

    @Says("Promise 3: or there would be more than 8000")
    void promise3RefusedAlsoWhenSoManyWrapAround() {
        // Modulo 2^32, m * n is 0, 2 or below 0, or it is below 0 with IN's: more than 8000 all the same.
        int[][] wrapped = {{4096, 4096, 1 << 20}, {3, 3, 1431655766}, {2, 2, 1 << 30}, {4000, 4000, 536870912},
            {2, 2, GREATEST}, {4, 4, 1 << 30}, {7999, 7999, 268469}};
        for (int[] each : wrapped) {
            againKeeps(HELD.withIn(run(each[0])), each[1], each[2], false);
        }
    }

    // --- Promises 4 to 6

    @Says("Promise 4: IN becomes empty.")
    void promise4ClearOfAnEmptyAndOfAFullIn() {
        for (int n : new int[] {0, 1, 3, 8000}) {
            TokenFrames x = HELD.withIn(n == 0 ? "" : run(n)).make();
            x.clear();
            HELD.withIn("").check(checks, "clear() of " + n + " bytes", x);
        }
        TokenFrames x = withRun(8000);
        x.clear();
        checks.isTrue("write into an IN that became empty", x.write(0x62, 1));
        checks.isTrue("again up to 8000 bytes", x.again(1, 7999));
        checks.due("sum of 8000 other bytes", x.sum(), (int) Rows.sum(Rows.times(8000, "62")));
    }

    @Says("Promise 5: IN becomes OUT.")
    void promise5TurnOfAnEmptyAndOfAFullOut() {
        TokenFrames x = HELD.withOut("").make();
        x.turn();
        HELD.withOut("").withIn("").check(checks, "turn() of an empty OUT", x);
        x = HELD.make();
        x.turn();
        HELD.withIn(HELD.out()).check(checks, "turn() of 3 bytes", x);
        x = HELD.withIn(run(8000)).make();
        x.turn();
        HELD.withIn(HELD.out()).check(checks, "turn() of 3 bytes into a full IN", x);
        x = withFullOut();
        x.turn();
        new Held("", run(8000), run(8000), 37).check(checks, "turn() of a full OUT", x);
        // OUT is a row of its own behind that.
        x = HELD.make();
        x.turn();
        x.write(1, 1);
        HELD.withIn(HELD.out() + "01").check(checks, "turn() and write", x);
    }

    @Says("Promise 6: HISTORY becomes IN, IN becomes empty.")
    void promise6RememberOfAnEmptyAndOfAFullIn() {
        for (int n : new int[] {0, 1, 5, 6, 7, 8000}) {
            String row = n == 0 ? "" : run(n);
            TokenFrames x = HELD.withIn(row).make();
            x.remember();
            HELD.withHistory(row).withIn("").check(checks, "remember() of " + n + " bytes", x);
        }
        TokenFrames x = HELD.withHistory(run(8000)).make();
        x.remember();
        HELD.withHistory(HELD.in()).withIn("").check(checks, "remember() behind a full HISTORY", x);
        // HISTORY is a row of its own behind that.
        x = HELD.make();
        x.remember();
        Rows.put(x, "01 02 03 04 05");
        HELD.withHistory(HELD.in()).withIn("01 02 03 04 05").check(checks, "remember() and write", x);
    }

    // --- Promise 11

    @Says("Promise 11: PLACE: of the latest unblock or unframe that was not refused.")
    void promise11PlaceStaysWhenACallIsRefused() {
        for (int most : new int[] {-1, 8001, LEAST, GREATEST}) {
            keeps(HELD, "unblock(" + most + ")", -4, x -> x.unblock(most));
            keeps(HELD, "unframe(" + most + ")", -12, x -> x.unframe(most));
        }
    }

    @Says("Promise 11: PLACE: of the latest unblock or unframe that was not refused.")
    void promise11PlaceIsOfTheLatestThatWasNotRefused() {
        TokenFrames x = HELD.make();
        Rows.load(x, "20 41 42");
        x.unblock(2);
        checks.due("place() of unblock", x.place(), 3);
        x.unframe(2);
        checks.due("place() of a faulty unframe", x.place(), 3);
        x.write(0, 1);
        x.unframe(2);
        checks.due("place() of another faulty unframe", x.place(), 0);
        x.unblock(0);
        checks.due("place() of a faulty unblock", x.place(), 1);
        x.clear();
        x.unframe(0);
        checks.due("place() of unframe of nothing", x.place(), 0);
        x.write(0x10, 1);
        x.unblock(0);
        checks.due("place() of an unblock that ends", x.place(), 1);
    }

    @Says("Promise 11: PLACE: of the latest unblock or unframe that was not refused.")
    void promise11PlaceIsUpTo8000() {
        TokenFrames x = Rows.with("f0" + growth(7967));
        Rows.put(x, run(7967));
        checks.isTrue("IN is full", !x.write(0, 1));
        checks.due("unblock of a full IN", x.unblock(8000), 7967);
        checks.due("place() of its end", x.place(), 8000);
        checks.due("unblock(7966) of a full IN", x.unblock(7966), -3);
        checks.due("place() of its last byte", x.place(), 7999);
    }

    // --- Promise 12

    @Says("Promise 12: The NARROW SUM of IN.")
    void promise12SumOfAnEmptyAndOfAFullIn() {
        keeps(HELD.withIn(""), "sum()", 0x02CC5D05, TokenFrames::sum);
        keeps(HELD, "sum()", (int) Rows.sum(HELD.in()), TokenFrames::sum);
        keeps(HELD.withIn(Rows.times(8000, "ff")), "sum()", 0x478E5001, TokenFrames::sum);
    }

    // The sums of the next three are from another program for the same sum.

    @Says("Terms: if n is at least 16, four LANES begin")
    void termsSumOf15And16And17Bytes() {
        int[][] sums = {{15, 0xBC6B49F9}, {16, 0x9445F18A}, {17, 0xB854B502}, {31, 0x2CC2801F}, {32, 0x0196D2FA},
            {33, 0x2AB5A953}, {48, 0x097BB56D}};
        sumsAre(sums);
    }

    @Says("Terms: as long as 4 bytes are left")
    void termsSumOf3And4And5Bytes() {
        int[][] sums = {{0, 0x02CC5D05}, {1, 0xCF65B03E}, {3, 0x8612F658}, {4, 0xE81B9178}, {5, 0x04AD62F9},
            {7, 0x74CDBBB4}, {8, 0x109DA642}, {19, 0x1697088D}, {20, 0xA8EF68EF}};
        sumsAre(sums);
    }

    private void sumsAre(int[][] sums) {
        for (int[] each : sums) {
            checks.due("sum of " + each[0] + " bytes", Rows.with(Rows.plain(each[0])).sum(), each[1]);
        }
    }

    @Says("Terms: modulo 2^32: ints as they are")
    void termsSumOfTheGreatestBytesWrapsAround() {
        checks.due("sum of ff", Rows.with("ff").sum(), 0x96BCD8CC);
        checks.due("sum of 4 ff", Rows.with(Rows.times(4, "ff")).sum(), 0x04079E5F);
        checks.due("sum of 16 ff", Rows.with(Rows.times(16, "ff")).sum(), 0xD85160AA);
        checks.due("sum of 4 80", Rows.with(Rows.times(4, "80")).sum(), 0x465AD37E);
        checks.due("sum of 16 80", Rows.with(Rows.times(16, "80")).sum(), 0x36354C32);
        checks.due("sum of 16 00", Rows.with(Rows.times(16, "00")).sum(), 0x8E022B3A);
    }

    // --- Promises 13 and 14

    @Says("Promise 13: How many bytes OUT has.")
    void promise13SizeOfAnEmptyAndOfAFullOut() {
        keeps(HELD.withOut(""), "size()", 0, TokenFrames::size);
        keeps(HELD, "size()", 3, TokenFrames::size);
        TokenFrames x = withFullOut();
        checks.due("size() of a full OUT", x.size(), 8000);
        Rows.load(x, "00");
        x.unblock(0);
        checks.due("size() of an OUT that became empty", x.size(), 0);
        Rows.load(x, "10 61");
        x.unblock(0);
        checks.due("size() after a fault", x.size(), 0);
        x.unblock(1);
        checks.due("size() of a byte", x.size(), 1);
    }

    @Says("Promise 14: Byte k of OUT, from 0, 0 .. 255")
    void promise14ByteKIs0To255() {
        TokenFrames x = HELD.withOut("00 01 7f 80 81 fe ff").make();
        int[] bytes = {0, 1, 127, 128, 129, 254, 255};
        for (int k = 0; k < bytes.length; k++) {
            checks.due("byteAt(" + k + ")", x.byteAt(k), bytes[k]);
        }
    }

    @Says("Promise 14: -1 when there is none")
    void promise14MinusOneWhenThereIsNone() {
        for (int k : new int[] {-1, -2, 3, 4, 7999, 8000, 8001, 65536, LEAST, LEAST + 1, GREATEST}) {
            keeps(HELD, "byteAt(" + k + ")", -1, x -> x.byteAt(k));
        }
        keeps(HELD, "byteAt(0)", 7, x -> x.byteAt(0));
        keeps(HELD, "byteAt(2)", 9, x -> x.byteAt(2));
        keeps(HELD.withOut(""), "byteAt(0)", -1, x -> x.byteAt(0));
        keeps(HELD.withOut("ff"), "byteAt(0)", 255, x -> x.byteAt(0));
        keeps(HELD.withOut("ff"), "byteAt(1)", -1, x -> x.byteAt(1));
        TokenFrames x = withFullOut();
        checks.due("byteAt(7999) of a full OUT", x.byteAt(7999), 0x61);
        checks.due("byteAt(8000) of a full OUT", x.byteAt(8000), -1);
        // What OUT had before it became shorter is not there any more.
        Rows.load(x, "20 62 63");
        x.unblock(8000);
        checks.due("byteAt(1)", x.byteAt(1), 0x63);
        checks.due("byteAt(2)", x.byteAt(2), -1);
        checks.due("byteAt(7999)", x.byteAt(7999), -1);
    }
}
