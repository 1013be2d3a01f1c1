/** Parts of blocks and of frames, put together by the document's words. */
abstract class Parts {
    static final String MARK = "04 22 4d 18";
    /** Four bytes 0. */
    static final String END = "00 00 00 00";

    /** A sequence with a copy. */
    static String copy(String literals, int distance, int length) {
        return token(Rows.count(literals), length - 4) + growth(Rows.count(literals)) + literals
                + pair(distance) + growth(length - 4);
    }

    /** A last sequence. */
    static String last(String literals) {
        return token(Rows.count(literals), 0) + growth(Rows.count(literals)) + literals;
    }

    private static String token(int a, int b) {
        return String.format("%02x", 16 * Math.min(15, a) + Math.min(15, b));
    }

    static String growth(int n) {
        return n < 15 ? "" : "ff".repeat((n - 15) / 255) + String.format("%02x", (n - 15) % 255);
    }

    static String pair(int distance) {
        return String.format("%02x%02x", distance & 255, distance >> 8 & 255);
    }

    static String head(int flags, int k, String sizeAndKey) {
        return headOf(String.format("%02x%02x", flags, 16 * k) + sizeAndKey);
    }

    /** The mark, all from FLAGS on, and the byte of their sum. */
    static String headOf(String fromFlagsOn) {
        return MARK + fromFlagsOn + String.format("%02x", Rows.sum(fromFlagsOn) >> 8 & 255);
    }

    static String size(long n) {
        return Rows.number(n) + Rows.number(n >> 32);
    }

    static String packed(String hex) {
        return Rows.number(Rows.count(hex)) + hex;
    }

    static String itself(String hex) {
        return Rows.number(Rows.count(hex) + (1L << 31)) + hex;
    }

    static String summed(String block) {
        return block + sum(block.replace(" ", "").substring(8));
    }

    static String sum(String hex) {
        return Rows.number(Rows.sum(hex));
    }

    static String plainFrame(String blocks) {
        return head(64, 4, "") + blocks + END;
    }
}
