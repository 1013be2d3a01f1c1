/** Promises 1 to 6 and 11 to 14: the object, its rows, PLACE and the sum. */
public final class PromisesTest {
    private static final int EMPTY_SUM = 0x02CC5D05;

    private final Checks checks = new Checks("promises 1 to 6, 11 to 14");

    public static void main(String[] args) {
        PromisesTest test = new PromisesTest();
        test.newObject();
        test.write();
        test.writeRefused();
        test.writeUpToTheRoom();
        test.again();
        test.againRefused();
        test.clear();
        test.turn();
        test.remember();
        test.place();
        test.sum();
        test.sizeAndByteAt();
        test.checks.end();
    }

    /** Promise 1. */
    private void newObject() {
        TokenFrames x = new TokenFrames();
        checks.due("place() of a new object", x.place(), 0);
        checks.due("size() of a new object", x.size(), 0);
        checks.due("byteAt(0) of a new object", x.byteAt(0), -1);
        checks.due("sum() of a new object", x.sum(), EMPTY_SUM);
        checks.isTrue("a new object's IN has no last byte", !x.again(1, 0));
        Rows.put(x, "10 41 01 00 00");
        checks.due("a new object's HISTORY has one literal to go back to", x.unblock(8000), 5);
        Rows.load(x, "00 01 00 00");
        checks.due("a new object's HISTORY is empty", x.unblock(8000), -2);
        TokenFrames other = new TokenFrames();
        checks.due("an object's rows are its own", other.size(), 0);
    }

    /** Promise 2. */
    private void write() {
        checks.same("write of 8 bytes", in(0x0102030405060708L, 8), "01 02 03 04 05 06 07 08");
        checks.same("write of the 3 lowest bytes", in(0x0102030405060708L, 3), "06 07 08");
        checks.same("write of the lowest byte", in(0x01020304050607F8L, 1), "f8");
        checks.same("write of -1", in(-1, 8), Rows.times(8, "ff"));
        checks.same("write of 0", in(0, 2), "00 00");
        checks.same("write of the least long", in(Long.MIN_VALUE, 8), "80 00 00 00 00 00 00 00");
        TokenFrames x = Rows.with("01 02");
        checks.isTrue("write appends", x.write(0x0304, 2));
        checks.same("IN after two writes", Rows.in(x), "01 02 03 04");
    }

    private String in(long bytes, int n) {
        TokenFrames x = new TokenFrames();
        checks.isTrue("write(" + bytes + ", " + n + ")", x.write(bytes, n));
        return Rows.in(x);
    }

    private void writeRefused() {
        TokenFrames x = Rows.with("01 02");
        for (int n : new int[] {0, 9, -1, 16, 257, Integer.MIN_VALUE, Integer.MAX_VALUE}) {
            checks.isTrue("write(5, " + n + ") is refused", !x.write(5, n));
        }
        checks.same("IN after refused writes", Rows.in(x), "01 02");
    }

    private void writeUpToTheRoom() {
        TokenFrames x = Rows.with("07");
        checks.isTrue("IN takes 7993 bytes", x.again(1, 7992));
        int before = x.sum();
        checks.isTrue("write beyond 8000 bytes is refused", !x.write(1, 8));
        checks.due("sum() after a refused write", x.sum(), before);
        checks.isTrue("write up to 8000 bytes", x.write(1, 7));
        checks.due("sum() of 8000 bytes", x.sum(),
                (int) Rows.sum(Rows.times(7993, "07") + "00 00 00 00 00 00 01"));
        checks.isTrue("write into a full IN is refused", !x.write(1, 1));
    }

    /** Promise 3. */
    private void again() {
        TokenFrames x = Rows.with("01 02 03");
        checks.isTrue("again(2, 2)", x.again(2, 2));
        checks.same("IN after again(2, 2)", Rows.in(x), "01 02 03 02 03 02 03");
        checks.isTrue("again(7, 0)", x.again(7, 0));
        checks.same("IN after again(7, 0)", Rows.in(x), "01 02 03 02 03 02 03");
        checks.isTrue("again of the whole IN", x.again(7, 1));
        checks.same("IN after again(7, 1)", Rows.in(x), "01 02 03 02 03 02 03 01 02 03 02 03 02 03");
        checks.isTrue("again(1, 3)", x.again(1, 3));
        checks.same("IN after again(1, 3)", Rows.in(x), "01 02 03 02 03 02 03 01 02 03 02 03 02 03 03 03 03");
    }

    private void againRefused() {
        TokenFrames x = Rows.with("01 02 03");
        for (int m : new int[] {0, 4, -1, Integer.MIN_VALUE, Integer.MAX_VALUE}) {
            checks.isTrue("again(" + m + ", 1) is refused", !x.again(m, 1));
            checks.isTrue("again(" + m + ", 0) is refused", !x.again(m, 0));
        }
        checks.isTrue("again(1, -1) is refused", !x.again(1, -1));
        checks.isTrue("again(1, least) is refused", !x.again(1, Integer.MIN_VALUE));
        checks.isTrue("again(1, 7998) is refused", !x.again(1, 7998));
        checks.isTrue("again(3, 2666) is refused", !x.again(3, 2666));
        checks.isTrue("again(2, greatest) is refused", !x.again(2, Integer.MAX_VALUE));
        checks.same("IN after refused calls", Rows.in(x), "01 02 03");
        checks.isTrue("again(3, 2665)", x.again(3, 2665));
        checks.isTrue("again up to 8000 bytes", x.again(1, 2));
        checks.isTrue("again with a product beyond 2^32 is refused", !x.again(8000, 536871));
        checks.isTrue("again(8000, 0)", x.again(8000, 0));
        checks.isTrue("again(8001, 0) is refused", !x.again(8001, 0));
        checks.isTrue("again(1, 1) beyond 8000 bytes is refused", !x.again(1, 1));
    }

    /** Promise 4. */
    private void clear() {
        TokenFrames x = Rows.with("41 42 43 44 45 46 47 48 49 4a 4b 4c", "10 58");
        x.unblock(8000);
        x.clear();
        checks.due("sum() after clear()", x.sum(), EMPTY_SUM);
        checks.same("OUT after clear()", Rows.out(x), "58");
        checks.due("place() after clear()", x.place(), 2);
        Rows.put(x, "00 0c 00 00");
        checks.due("HISTORY after clear()", x.unblock(8000), 4);
        x.clear();
        x.clear();
        checks.due("sum() after clear() of an empty IN", x.sum(), EMPTY_SUM);
    }

    /** Promise 5. */
    private void turn() {
        TokenFrames x = Rows.with("01 02 03");
        x.block(0);
        Rows.put(x, "04 05 06");
        x.turn();
        checks.same("OUT after turn()", Rows.out(x), "30 01 02 03");
        Rows.put(x, "07");
        checks.same("OUT after turn() and write", Rows.out(x), "30 01 02 03");
        checks.same("IN after turn() and write", Rows.in(x), "30 01 02 03 07");
        x = Rows.with("01 02 03");
        x.turn();
        checks.due("sum() after turn() of an empty OUT", x.sum(), EMPTY_SUM);
    }

    /** Promise 6. */
    private void remember() {
        TokenFrames x = Rows.with("10 58");
        x.unblock(8000);
        x.remember();
        checks.due("sum() after remember()", x.sum(), EMPTY_SUM);
        checks.same("OUT after remember()", Rows.out(x), "58");
        checks.due("place() after remember()", x.place(), 2);
        Rows.put(x, "00 02 00 00");
        checks.due("unblock behind two bytes", x.unblock(8000), 4);
        checks.same("HISTORY is what IN was", Rows.out(x), "10 58 10 58");
        Rows.load(x, "aa");
        x.remember();
        Rows.put(x, "00 02 00 00");
        checks.due("HISTORY is the latest IN alone", x.unblock(8000), -2);
        x.clear();
        x.remember();
        Rows.put(x, "00 01 00 00");
        checks.due("remember() of an empty IN", x.unblock(8000), -2);
    }

    /** Promise 11. */
    private void place() {
        TokenFrames x = Rows.with("10 41 00 00");
        x.unblock(8000);
        checks.due("place() of a fault", x.place(), 2);
        x.unblock(-1);
        x.unblock(8001);
        x.unframe(-1);
        x.unframe(8001);
        checks.due("place() after refused calls", x.place(), 2);
        x.block(0);
        x.block(9);
        x.frame(64, 4, 0, 1, 0);
        x.frame(0, 4, 0, 1, 0);
        checks.due("place() after block and frame", x.place(), 2);
        x.unframe(8000);
        checks.due("place() after unframe", x.place(), 0);
        Rows.load(x, "20 41 42");
        x.unblock(8000);
        checks.due("place() after unblock", x.place(), 3);
    }

    /** Promise 12; the sums of the texts are widely known ones. */
    private void sum() {
        checks.due("sum of nothing", new TokenFrames().sum(), EMPTY_SUM);
        checks.due("sum of a", sumOf("a"), 0x550D7456);
        checks.due("sum of abc", sumOf("abc"), 0x32D153FF);
        checks.due("sum of a line", sumOf("Nobody inspects the spammish repetition"), (int) 0xE2293B2FL);
        checks.due("sum of abcd", sumOf("abcd"), (int) 0xA3643705L);
        for (int n = 0; n <= 70; n++) {
            TokenFrames x = Rows.with(Rows.plain(n));
            checks.due("sum of " + n + " bytes", x.sum(), (int) Rows.sum(Rows.plain(n)));
        }
        TokenFrames x = Rows.with("ff");
        x.again(1, 7999);
        checks.due("sum of 8000 bytes", x.sum(), (int) Rows.sum(Rows.times(8000, "ff")));
        checks.due("sum again", x.sum(), (int) Rows.sum(Rows.times(8000, "ff")));
        checks.due("OUT after sum()", x.size(), 0);
    }

    private static int sumOf(String text) {
        return Rows.with(Rows.text(text)).sum();
    }

    /** Promises 13 and 14. */
    private void sizeAndByteAt() {
        TokenFrames x = Rows.with("80 ff 7f");
        checks.due("block(1)", x.block(1), 4);
        checks.due("size()", x.size(), 4);
        int[] bytes = {0x30, 0x80, 0xff, 0x7f};
        for (int k = 0; k < bytes.length; k++) {
            checks.due("byteAt(" + k + ")", x.byteAt(k), bytes[k]);
        }
        for (int k : new int[] {-1, 4, 5, 7999, 8000, 8001, Integer.MIN_VALUE, Integer.MAX_VALUE}) {
            checks.due("byteAt(" + k + ")", x.byteAt(k), -1);
        }
        x.clear();
        x.unframe(0);
        checks.due("size() of an OUT that became empty", x.size(), 0);
        checks.due("byteAt(0) of an OUT that became empty", x.byteAt(0), -1);
        Rows.put(x, "1f 07 01 00");
        Rows.put(x, Rows.times(31, "ff") + "4b 00");
        checks.due("unblock to 8000 bytes", x.unblock(8000), 1 + 15 + 31 * 255 + 0x4b + 4);
        Rows.load(x, "1f 07 01 00");
        Rows.put(x, Rows.times(31, "ff") + "3f 00");
        checks.due("unblock to 7988 bytes", x.unblock(8000), 7988);
        checks.due("byteAt(7987)", x.byteAt(7987), 7);
        checks.due("byteAt(7988)", x.byteAt(7988), -1);
    }
}
