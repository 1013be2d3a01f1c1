import java.util.Random;

/**
 * Rows of bytes as texts: hexadecimal, two digits a byte, with spaces for the eye.
 *
 * <p>An object is promised for 512 calls, so what these cost is kept low.
 */
final class Rows {
    private static final int MOST_SHOWN = 100;
    private static final int LONG_RUN = 64;

    private Rows() {
    }

    static TokenFrames with(String hex) {
        TokenFrames x = new TokenFrames();
        put(x, hex);
        return x;
    }

    static TokenFrames with(String historyHex, String inHex) {
        TokenFrames x = with(historyHex);
        x.remember();
        put(x, inHex);
        return x;
    }

    /** Appends a row; a long run of one byte is appended by again. */
    static void put(TokenFrames x, String hex) {
        String digits = hex.replace(" ", "");
        int at = 0;
        while (at < digits.length()) {
            int run = runAt(digits, at);
            int n = run >= LONG_RUN ? run : Math.min(8, digits.length() / 2 - at / 2);
            String part = digits.substring(at, at + 2 * (run >= LONG_RUN ? 1 : n));
            boolean fits = x.write(Long.parseUnsignedLong(part, 16), part.length() / 2);
            if (!fits || run >= LONG_RUN && !x.again(1, n - 1)) {
                throw new IllegalArgumentException("IN has no room for " + hex);
            }
            at += 2 * n;
        }
    }

    /** How often the byte that stands there comes one behind the other. */
    private static int runAt(String digits, int at) {
        int end = at;
        while (end < digits.length() && digits.startsWith(digits.substring(at, at + 2), end)) {
            end += 2;
        }
        return (end - at) / 2;
    }

    /** IN becomes the row. */
    static void load(TokenFrames x, String hex) {
        x.clear();
        put(x, hex);
    }

    /** OUT; a long one by its sum, for which IN becomes OUT. */
    static String out(TokenFrames x) {
        int n = x.size();
        if (n > MOST_SHOWN) {
            x.turn();
            return bySum(n, x.sum());
        }
        StringBuilder row = new StringBuilder();
        for (int k = 0; k < n; k++) {
            row.append(k == 0 ? "" : " ").append(String.format("%02x", x.byteAt(k)));
        }
        return row.toString();
    }

    /** A row as out tells it. */
    static String shown(String hex) {
        int n = count(hex);
        return n > MOST_SHOWN ? bySum(n, (int) sum(hex)) : hex.replace(" ", "").replaceAll("..(?=.)", "$0 ");
    }

    private static String bySum(int n, int sum) {
        return n + " bytes with the sum " + sum;
    }

    /** IN, through OUT. */
    static String in(TokenFrames x) {
        int n = x.frame(64, 4, 0, 1, 0);
        StringBuilder row = new StringBuilder();
        for (int k = 11; k < n - 4; k += 5) {
            row.append(k == 11 ? "" : " ").append(String.format("%02x", x.byteAt(k)));
        }
        return row.toString();
    }

    static String text(String letters) {
        StringBuilder row = new StringBuilder();
        for (char letter : letters.toCharArray()) {
            row.append(row.length() == 0 ? "" : " ").append(String.format("%02x", (int) letter));
        }
        return row.toString();
    }

    static String times(int n, String hex) {
        return (hex + " ").repeat(n).trim();
    }

    /** A row of n bytes (at most 512) without a match: no four bytes of it come twice in this order. */
    static String plain(int n) {
        StringBuilder row = new StringBuilder();
        for (int i = 0; i < n; i++) {
            row.append(i == 0 ? "" : " ").append(String.format("%02x", i % 2 == 0 ? i / 2 : 255 - (i / 2 * 7 & 255)));
        }
        return row.toString();
    }

    /**
     * An object whose IN has n bytes (7000 .. 8000) without a match, after fewer than 450 calls. So many
     * can't be written one by one: a frame with a sum for each two bytes makes most of them, and packing
     * takes out what comes twice (with this seed, all of it).
     */
    static TokenFrames withoutMatches(int n) {
        Random random = new Random(16);
        TokenFrames x = new TokenFrames();
        for (int i = 0; i < 198; i++) {
            x.write(random.nextLong(), 8);
        }
        x.frame(80, 4, 0, 2, 0);
        x.turn();
        int count = x.block(2);
        x.turn();
        while (count < n) {
            int more = Math.min(8, n - count);
            x.write(random.nextLong(), more);
            count += more;
        }
        return x;
    }

    static int count(String hex) {
        return hex.replace(" ", "").length() / 2;
    }

    /** The first n bytes of a row. */
    static String first(int n, String hex) {
        return hex.replace(" ", "").substring(0, 2 * n);
    }

    /** The row with byte k being another one. */
    static String changed(String hex, int k, int value) {
        String digits = hex.replace(" ", "");
        return digits.substring(0, 2 * k) + String.format("%02x", value) + digits.substring(2 * k + 2);
    }

    static long sum(String hex) {
        String digits = hex.replace(" ", "");
        int[] row = new int[digits.length() / 2];
        for (int k = 0; k < row.length; k++) {
            row[k] = Integer.parseInt(digits.substring(2 * k, 2 * k + 2), 16);
        }
        return Model.narrowSum(row);
    }

    /** A number in four bytes, the lowest first. */
    static String number(long value) {
        return String.format("%08x", Integer.reverseBytes((int) value));
    }
}
