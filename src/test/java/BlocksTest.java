/** Promises 7 and 8: writing and reading blocks. */
public final class BlocksTest extends BlockCases {
    private static final String LETTERS = Rows.text("KLMNOPQRSTUVWX");

    private BlocksTest() {
        super("promises 7 and 8");
    }

    public static void main(String[] args) {
        BlocksTest test = new BlocksTest();
        test.literals();
        test.lengths();
        test.endAndLast();
        test.intoHistory();
        test.wayOfTheNearest();
        test.wayOfEight();
        test.wayOfTheLongest();
        test.wayThatWaits();
        test.blockRefused();
        test.blockOfEightThousand();
        test.reading();
        test.readingOfEightThousand();
        test.readingBehindHistory();
        test.faultOne();
        test.faultTwo();
        test.faultThree();
        test.theFirstFault();
        test.unblockRefused();
        test.checks.end();
    }

    private void literals() {
        writtenByAll("", "", "00");
        writtenByAll("", "7a", "10 7a");
        writtenByAll("", Rows.plain(14), "e0" + Rows.plain(14));
        writtenByAll("", Rows.plain(15), "f0 00" + Rows.plain(15));
        writtenByAll("", Rows.plain(16), "f0 01" + Rows.plain(16));
        writtenByAll("", Rows.plain(269), "f0 fe" + Rows.plain(269));
        writtenByAll("", Rows.plain(270), "f0 ff 00" + Rows.plain(270));
        writtenByAll("", Rows.plain(271), "f0 ff 01" + Rows.plain(271));
    }

    private void lengths() {
        writtenByAll("", Rows.times(12, "61"), "c0" + Rows.times(12, "61"));
        String tail = "50" + Rows.times(5, "61");
        writtenByAll("", Rows.times(13, "61"), "13 61 01 00" + tail);
        writtenByAll("", Rows.times(6 + 18, "61"), "1e 61 01 00" + tail);
        writtenByAll("", Rows.times(6 + 19, "61"), "1f 61 01 00 00" + tail);
        writtenByAll("", Rows.times(6 + 273, "61"), "1f 61 01 00 fe" + tail);
        writtenByAll("", Rows.times(6 + 274, "61"), "1f 61 01 00 ff 00" + tail);
        writtenByAll("", Rows.plain(20) + " " + Rows.plain(40),
                "ff 05" + Rows.plain(20) + "14 00 01"
                        + "f0 05" + Rows.plain(40).substring(3 * 20));
    }

    private void endAndLast() {
        String history = Rows.text("abcdefghijklm");
        writtenByAll(history, Rows.text("abcdefghijk"), "b0" + Rows.text("abcdefghijk"));
        writtenByAll(history, Rows.text("abcdefghijkl"), "03 0d 00 50" + Rows.text("hijkl"));
        writtenByAll(history, Rows.text("Xabcdefghijkl"), "13 58 0e 00 50" + Rows.text("hijkl"));
        writtenByAll(history, Rows.text("XYabcdefghijk"), "d0" + Rows.text("XYabcdefghijk"));
    }

    private void intoHistory() {
        writtenByAll(Rows.text("abcdX"), Rows.text("abcdYZ0123456789"),
                "00 05 00 c0" + Rows.text("YZ0123456789"));
        writtenByAll(Rows.text("abcX"), Rows.text("abcYZ0123456789"),
                "f0 00" + Rows.text("abcYZ0123456789"));
        writtenByAll(Rows.text("ab"), Rows.text("abababababababab"), "07 02 00 50" + Rows.text("babab"));
        writtenByAll(Rows.text("abcd") + " " + Rows.plain(300), Rows.text("abcd") + " " + LETTERS,
                "00 30 01 e0" + LETTERS);
    }

    private void wayOfTheNearest() {
        written(Rows.text("abcdefghij1abcdefgh2abcd3"), Rows.text("abcdefghij") + " " + LETTERS, 0,
                "00 05 00 00 0e 00 f0 01" + Rows.text("ij") + LETTERS);
        written(Rows.text("aaaa1"), Rows.times(20, "61"), 0, "00 05 00 07 01 00 50" + Rows.times(5, "61"));
    }

    private void wayOfEight() {
        written(Rows.text("abcdefghij1abcdefgh2abcd3"), Rows.text("abcdefghij") + " " + LETTERS, 1,
                "04 0e 00 f0 01" + Rows.text("ij") + LETTERS);
        written(Rows.text("abcdefgh1abcdefg2abc"), Rows.text("abcdefgh") + " " + LETTERS, 1,
                "04 14 00 e0" + LETTERS);
        written(Rows.text("abcdefg1abcd2"), Rows.text("abcdefg") + " " + LETTERS, 1,
                "00 05 00 f0 02" + Rows.text("efg") + LETTERS);
        // At LAST no match can have 8 bytes: of these two the nearest has 5, the other one 7.
        written(Rows.text("abcdefgh1abcde2"), Rows.text("abcdefghijkl"), 1,
                "01 06 00 70" + Rows.text("fghijkl"));
        // The other one would have 9 bytes, but not before END.
        written(Rows.text("abcdefghi1abcde2"), Rows.text("abcdefghijklm"), 1,
                "04 10 00 50" + Rows.text("ijklm"));
    }

    private void wayOfTheLongest() {
        String letters = " " + LETTERS;
        for (int way = 2; way < 4; way++) {
            written(Rows.text("abcdefghij1abcdefgh2abcd3"), Rows.text("abcdefghij") + letters, way,
                    "06 19 00 e0" + LETTERS);
            written(Rows.text("abcdef1abcdef2abcd3"), Rows.text("abcdef") + letters, way,
                    "02 0c 00 e0" + LETTERS);
            // Both are as long as can be before END: the nearest.
            written(Rows.text("abcdefghi1abcdefg2"), Rows.text("abcdefghijkl"), way,
                    "03 08 00 50" + Rows.text("hijkl"));
        }
        written(Rows.text("abcd1bcdefgh2"), Rows.text("abcdefgh") + letters, 2,
                "00 0d 00 00 09 00 e0" + LETTERS);
        written(Rows.text("aaaa1"), Rows.times(20, "61"), 2, "00 05 00 07 01 00 50" + Rows.times(5, "61"));
    }

    private void wayThatWaits() {
        String letters = " " + LETTERS;
        written(Rows.text("abcd1bcdefgh2"), Rows.text("abcdefgh") + letters, 3,
                "13 61 09 00 e0" + LETTERS);
        written(Rows.text("abcd1bcde2"), Rows.text("abcde") + letters, 3,
                "00 0a 00 f0 00 65" + LETTERS);
        written(Rows.text("abcd1bcdef2cdefghi3"), Rows.text("abcdefghi") + letters, 3,
                "23 61 62 0a 00 e0" + LETTERS);
        written(Rows.text("aaaa1"), Rows.times(20, "61"), 3, "1a 61 01 00 50" + Rows.times(5, "61"));
        written(Rows.text("abcd1bcdefgh2"), Rows.text("abcdefghKLMN"), 3,
                "00 0d 00 80" + Rows.text("efghKLMN"));
        written(Rows.text("abcd1bcdefgh2"), Rows.text("abcdefghKLMNO"), 3,
                "13 61 09 00 50" + Rows.text("KLMNO"));
    }

    private void blockRefused() {
        TokenFrames x = Rows.with("41");
        x.block(0);
        Rows.put(x, "42");
        for (int way : new int[] {-1, 4, 5, Integer.MIN_VALUE, Integer.MAX_VALUE}) {
            checks.due("block(" + way + ")", x.block(way), -1);
        }
        checks.same("OUT after refused calls", Rows.out(x), "10 41");
        checks.same("IN after refused calls", Rows.in(x), "41 42");
    }

    private void blockOfEightThousand() {
        TokenFrames x = Rows.withoutMatches(7967);
        for (int way = 0; way < 4; way++) {
            checks.due("block(" + way + ") of 7967 literals", x.block(way), 8000);
        }
        x.write(1, 1);
        for (int way = 0; way < 4; way++) {
            checks.due("block(" + way + ") of 7968 literals", x.block(way), -1);
        }
        checks.due("size() after a refused block", x.size(), 8000);
        checks.due("byteAt(0) after a refused block", x.byteAt(0), 0xf0);
        checks.due("byteAt(32) after a refused block", x.byteAt(32), 7967 - 15 - 31 * 255);
        // There is no room left ahead of the match that stands behind the literals.
        x = Rows.withoutMatches(7980);
        x.again(8, 1);
        x.write(2, 8);
        checks.due("block(2) of 7980 literals and a match", x.block(2), -1);
        TokenFrames same = Rows.with("61");
        same.again(1, 7999);
        same.remember();
        Rows.put(same, "61");
        same.again(1, 7999);
        checks.due("block(2) of 8000 bytes behind 8000", same.block(2), 1 + 2 + 32 + 1 + 5);
    }

    private void reading() {
        read("", "00", 0, "");
        read("", "0f", 0, "");
        read("", "30 61 62 63", 3, "61 62 63");
        read("", "3f 61 62 63", 8000, "61 62 63");
        read("", "f0 00" + Rows.plain(15), 8000, Rows.plain(15));
        read("", "f0 fe" + Rows.plain(269), 269, Rows.plain(269));
        read("", "f0 ff 00" + Rows.plain(270), 270, Rows.plain(270));
        read("", "12 41 01 00 00", 7, Rows.times(7, "41"));
        read("", "20 41 42 02 00 10 43", 8000, "41 42 41 42 41 42 43");
        read("", "1f 41 01 00 00 00", 20, Rows.times(20, "41"));
        read("", "1f 41 01 00 ff 01 00", 276, Rows.times(276, "41"));
        read("", "10 41 01 00 00 05 00 10 42", 10, Rows.times(9, "41") + " 42");
        read("", "f0 f1" + Rows.plain(256) + "00 01 00", 260, Rows.plain(256) + " " + Rows.plain(4));
    }

    private void readingOfEightThousand() {
        TokenFrames x = Rows.with("10 41 01 00 f0" + Rows.times(31, "ff") + "2b 42");
        x.again(1, 7962);
        checks.isTrue("IN is full", !x.write(0, 1));
        checks.due("unblock of 8000 bytes", x.unblock(8000), 5 + 15 + 31 * 255 + 0x2b);
        checks.due("place() of 8000 bytes", x.place(), 8000);
        checks.due("byteAt(4)", x.byteAt(4), 0x41);
        checks.due("byteAt(5)", x.byteAt(5), 0x42);
        checks.due("unblock of 8000 bytes to 7967", x.unblock(7967), -3);
        checks.due("place() of the last literal", x.place(), 7999);
    }

    private void readingBehindHistory() {
        read("01 02 03", "00 03 00 00", 4, "01 02 03 01");
        read("01 02 03", "10 09 04 00 00", 5, "09 01 02 03 09");
        read("01 02 03", "20 09 08 04 00 00", 6, "09 08 02 03 09 08");
        read("01 02 03", "02 01 00 10 04", 7, "03 03 03 03 03 03 04");
        read("01 02 03", "00", 0, "");
    }

    private void faultOne() {
        fault("", "", 8000, 1, 0);
        fault("", "f0", 8000, 1, 1);
        fault("", "f0 ff", 8000, 1, 2);
        fault("", "f0 ff ff", 8000, 1, 3);
        fault("", "10", 8000, 1, 1);
        fault("", "20 41", 8000, 1, 2);
        fault("", "f0 00" + Rows.plain(14), 8000, 1, 16);
        fault("", "10 41 01", 8000, 1, 3);
        fault("", "10 41 00", 8000, 1, 3);
        fault("", "10 41 01 00", 8000, 1, 4);
        fault("", "1f 41 01 00", 8000, 1, 4);
        fault("", "1f 41 01 00 ff", 8000, 1, 5);
        fault("", "1f 41 01 00 05", 8000, 1, 5);
        fault("01", "00 01 00", 8000, 1, 3);
    }

    private void faultTwo() {
        fault("", "10 41 00 00 00", 8000, 2, 2);
        fault("", "10 41 02 00 00", 8000, 2, 2);
        fault("", "10 41 01 01 00", 8000, 2, 2);
        fault("", "10 41 ff ff 00", 8000, 2, 2);
        fault("", "00 01 00 00", 8000, 2, 1);
        fault("01 02 03", "00 04 00 00", 8000, 2, 1);
        fault("01 02 03", "10 41 05 00 00", 8000, 2, 2);
        fault("01 02 03", "00 00 00 00", 8000, 2, 1);
        fault("", "10 41 01 00 00 06 00 00", 8000, 2, 5);
    }

    private void faultThree() {
        fault("", "10 41", 0, 3, 1);
        fault("", "30 61 62 63", 0, 3, 1);
        fault("", "30 61 62 63", 2, 3, 3);
        fault("", "f0 00" + Rows.plain(15), 14, 3, 16);
        fault("", "10 41 01 00 00", 4, 3, 2);
        fault("", "1f 41 01 00 00 00", 19, 3, 2);
        fault("01 02", "00 01 00 00", 3, 3, 1);
        fault("", "10 41 01 00 20 42 43", 6, 3, 6);
        fault("", "1f 41 01 00" + Rows.times(31, "ff") + "4c 00", 8000, 3, 2);
        read("", "1f 41 01 00" + Rows.times(31, "ff") + "4b 00", 8000, Rows.times(8000, "41"));
    }

    private void theFirstFault() {
        // The DISTANCE is looked at before bytes are added, and before the copy is.
        fault("", "1f 41 00 00", 8000, 2, 2);
        fault("", "1f 41 02 00 ff", 1, 2, 2);
        // The copy's length is known behind the bytes that are added.
        fault("", "1f 41 01 00 ff", 3, 1, 5);
        // A literal that is there and too many comes before the end of those that are not.
        fault("", "50 61 62 63", 2, 3, 3);
        fault("", "50 61 62 63", 3, 1, 4);
        fault("", "50 61 62 63", 4, 1, 4);
        // The copy is too long before a TOKEN is missing.
        fault("", "10 41 01 00", 4, 3, 2);
    }

    private void unblockRefused() {
        TokenFrames x = Rows.with("20 07 08");
        x.unblock(8000);
        Rows.load(x, "10 09");
        for (int most : new int[] {-1, 8001, Integer.MIN_VALUE, Integer.MAX_VALUE}) {
            checks.due("unblock(" + most + ")", x.unblock(most), -4);
        }
        checks.same("OUT after refused calls", Rows.out(x), "07 08");
        checks.due("place() after refused calls", x.place(), 3);
        checks.due("unblock(1) after refused calls", x.unblock(1), 1);
    }
}
