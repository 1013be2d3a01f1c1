/** Promises 9 and 10: writing and reading frames. */
public final class FramesTest extends FrameCases {
    private static final String ABC = Rows.text("abc");
    private static final String LETTERS = Rows.text("abcdefghijklmnop");

    private FramesTest() {
        super("promises 9 and 10");
    }

    public static void main(String[] args) {
        FramesTest test = new FramesTest();
        test.heads();
        test.flagsAndK();
        test.rows();
        test.rowsThatStandForThemselves();
        test.rowsBehindContent();
        test.rowsAlone();
        test.sums();
        test.frameRefused();
        test.frameOfEightThousand();
        test.reading();
        test.readingBehindContent();
        test.faultOne();
        test.faultOneOfEachCut();
        test.faultFour();
        test.faultFive();
        test.faultSix();
        test.faultSeven();
        test.faultEight();
        test.faultsOfBlocks();
        test.faultThree();
        test.faultsTenAndEleven();
        test.theFirstFault();
        test.unframeRefused();
        test.checks.end();
    }

    // --- promise 9

    private void heads() {
        // These two whole frames are widely known ones.
        written("", "", 100, 1, 0, "04 22 4d 18 64 40 a7 00 00 00 00 05 5d cc 02");
        written("", ABC, 64, 8000, 0, "04 22 4d 18 40 40 c0 03 00 00 80 61 62 63 00 00 00 00");
        written("", ABC, 72, 3, 3, head(72, 4, Rows.number(3) + END) + itself(ABC) + END);
        written("", ABC, 65, 3, 3, head(65, 4, Rows.number(7)) + itself(ABC) + END);
        written("", ABC, 73, 3, 3, head(73, 4, Rows.number(3) + END + Rows.number(7)) + itself(ABC) + END);
        TokenFrames x = Rows.with(Rows.times(300, "61"));
        x.frame(73, 7, 0x81828384, 8000, 0);
        checks.same("a head with SIZE 300 and a KEY", Rows.out(x).substring(0, 3 * 18),
                "04 22 4d 18 49 70 2c 01 00 00 00 00 00 00 84 83 82 81 ");
    }

    private void flagsAndK() {
        for (int flags = -1; flags < 400; flags++) {
            TokenFrames x = Rows.with(ABC);
            boolean mayBe = flags >= 64 && flags < 128 && (flags & 2) == 0;
            int size = 18 + ((flags & 16) != 0 ? 4 : 0) + ((flags & 8) != 0 ? 8 : 0)
                    + ((flags & 4) != 0 ? 4 : 0) + ((flags & 1) != 0 ? 4 : 0);
            checks.due("frame(" + flags + ", 4, 0, 9, 0)", x.frame(flags, 4, 0, 9, 0), mayBe ? size : -1);
        }
        for (int k = 4; k < 8; k++) {
            TokenFrames x = Rows.with(ABC);
            checks.due("frame with k " + k, x.frame(64, k, 0, 9, 0), 18);
            checks.same("OUT of a frame with k " + k, Rows.out(x),
                    Rows.shown(head(64, k, "") + itself(ABC) + END));
        }
    }

    private void rows() {
        String row = Rows.plain(24);
        written("", row, 64, 10, 2, plainFrame(itself(row.substring(0, 30))
                + itself(row.substring(30, 60)) + itself(row.substring(60))));
        written("", row, 64, 12, 2, plainFrame(itself(row.substring(0, 36)) + itself(row.substring(36))));
        written("", row, 64, 24, 2, plainFrame(itself(row)));
        written("", row, 64, 23, 2, plainFrame(itself(row.substring(0, 69)) + itself(row.substring(69))));
        written("", ABC, 64, 1, 1, plainFrame(itself("61") + itself("62") + itself("63")));
        written("", Rows.times(40, "61"), 64, 8000, 0,
                plainFrame(packed("1f 61 01 00 0f 50" + Rows.times(5, "61"))));
    }

    private void rowsThatStandForThemselves() {
        // A block of as many bytes as the row gives way to it, one with a byte less does not.
        String row = Rows.text("abcdYZ0123456789");
        written(Rows.text("abcdX"), row, 64, 8000, 2, plainFrame(itself(row)));
        written(Rows.text("abcdeX"), Rows.text("abcdeZ0123456789"), 64, 8000, 2,
                plainFrame(packed("01 06 00 b0" + Rows.text("Z0123456789"))));
    }

    private void rowsBehindContent() {
        String twice = LETTERS + " " + LETTERS;
        String second = packed("07 10 00 50" + Rows.text("lmnop"));
        for (int way = 0; way < 4; way++) {
            written("", twice, 64, 16, way, plainFrame(itself(LETTERS) + second));
            written(LETTERS, twice, 64, 16, way, plainFrame(second + second));
        }
        // The second row's longest match begins in HISTORY, behind the first row.
        written(Rows.text("abcdefghij"), Rows.text("ABCDEFGHIJKLabcdefghijkl"), 64, 12, 2,
                plainFrame(itself(Rows.text("ABCDEFGHIJKL")) + packed("03 16 00 50" + Rows.text("hijkl"))));
        // The first row's last places are known to the second row, and HISTORY runs on into the content.
        written(Rows.text("ab"), Rows.text("cdefghijKLMN") + " " + Rows.text("abcdefghMNOP"), 64, 12, 2,
                plainFrame(itself(Rows.text("cdefghijKLMN")) + packed("03 0e 00 50" + Rows.text("hMNOP"))));
        written("", Rows.text("KLMNabcdefgh") + " " + Rows.text("defghXabcdef"), 64, 12, 2,
                plainFrame(itself(Rows.text("KLMNabcdefgh")) + packed("01 05 00 70" + Rows.text("Xabcdef"))));
    }

    private void rowsAlone() {
        String twice = LETTERS + " " + LETTERS;
        String alone = head(96, 4, "");
        String second = packed("07 10 00 50" + Rows.text("lmnop"));
        for (int way = 0; way < 4; way++) {
            written("", twice, 96, 16, way, alone + itself(LETTERS) + itself(LETTERS) + END);
            written(LETTERS, twice, 96, 16, way, alone + second + second + END);
            // Each row goes on where HISTORY ends, and HISTORY's last places run on into each row.
            String pairs = packed("07 02 00 50" + Rows.text("babab"));
            written(Rows.text("ab"), Rows.times(24, "61 62"), 96, 16, way,
                    alone + pairs + pairs + pairs + END);
        }
        // HISTORY runs on into the first row, not for the second one.
        String first = Rows.text("cdefghijKLMN");
        String other = Rows.text("abcdefghMNOP");
        written(Rows.text("ab"), first + " " + other, 96, 12, 2,
                alone + itself(first) + itself(other) + END);
    }

    private void sums() {
        String row = Rows.times(40, "61");
        String block = packed("1f 61 01 00 0f 50" + Rows.times(5, "61"));
        written("", row, 80, 8000, 0, head(80, 4, "") + summed(block) + END);
        written("", row, 68, 8000, 0, head(68, 4, "") + block + END + sum(row));
        written("", row + " " + ABC, 84, 40, 0,
                head(84, 4, "") + summed(block) + summed(itself(ABC)) + END + sum(row + " " + ABC));
        written("", "", 124, 8000, 0, head(124, 4, END + END) + END + sum(""));
    }

    private void frameRefused() {
        TokenFrames x = Rows.with(ABC);
        x.block(0);
        for (int flags : new int[] {0, 32, 63, 66, 67, 128, 192, 320, Integer.MIN_VALUE, Integer.MAX_VALUE}) {
            checks.due("frame with flags " + flags, x.frame(flags, 4, 0, 9, 0), -1);
        }
        for (int k : new int[] {3, 8, 0, -4, 20, Integer.MIN_VALUE, Integer.MAX_VALUE}) {
            checks.due("frame with k " + k, x.frame(64, k, 0, 9, 0), -1);
        }
        for (int cut : new int[] {0, -1, 8001, Integer.MIN_VALUE, Integer.MAX_VALUE}) {
            checks.due("frame with cut " + cut, x.frame(64, 4, 0, cut, 0), -1);
        }
        for (int way : new int[] {-1, 4, Integer.MIN_VALUE, Integer.MAX_VALUE}) {
            checks.due("frame with way " + way, x.frame(64, 4, 0, 9, way), -1);
        }
        checks.same("OUT after refused calls", Rows.out(x), "30 61 62 63");
    }

    private void frameOfEightThousand() {
        TokenFrames x = Rows.with("61");
        x.again(1, 1596);
        checks.due("frame of 1597 rows of a byte", x.frame(64, 4, 0, 1, 0), 7996);
        x.write(98, 1);
        checks.due("frame of 1598 rows of a byte", x.frame(64, 4, 0, 1, 0), -1);
        checks.due("size() after a refused frame", x.size(), 7996);
        // The rest of a full frame: the blocks fit, what stands behind them does not.
        x = Rows.with("61");
        x.again(1, 1595);
        checks.due("frame with a sum behind 1596 rows", x.frame(68, 4, 0, 1, 0), 7995);
        checks.due("frame with a KEY and a sum", x.frame(69, 4, 0, 1, 0), 7999);
        checks.due("frame with SIZE and a sum", x.frame(76, 4, 0, 1, 0), -1);
        // The block for the row has more than 8000 bytes, but the row stands for itself.
        x = Rows.withoutMatches(7985);
        int sum = x.sum();
        checks.due("frame of 7985 literals", x.frame(64, 4, 0, 8000, 3), 8000);
        checks.due("frame with a sum of 7985 literals", x.frame(68, 4, 0, 8000, 3), -1);
        x.turn();
        checks.due("unframe of 7985 literals", x.unframe(7985), 7985);
        x.turn();
        checks.due("sum() of 7985 literals", x.sum(), sum);
        x.write(1, 1);
        checks.due("frame of 7986 literals", x.frame(64, 4, 0, 8000, 3), -1);
        x = Rows.withoutMatches(7968);
        x.again(8, 1);
        x.write(2, 8);
        checks.due("frame of 7968 literals and a match", x.frame(64, 4, 0, 8000, 3), 11 + 4 + 7984);
    }

    // --- promise 10

    private void reading() {
        read("", 0, "");
        read(plainFrame(""), 0, "");
        read(plainFrame(itself("")), 0, "");
        read(plainFrame(itself("") + itself(ABC) + itself("")), 3, ABC);
        read(plainFrame(packed("00")), 0, "");
        read(plainFrame(packed("12 41 01 00 00") + itself("42")), 8, Rows.times(7, "41") + " 42");
        read(SPARE, 0, "");
        read("50 2a 4d 18 00 00 00 00", 0, "");
        read(SPARE + plainFrame(itself("41")) + SPARE + SPARE + plainFrame(itself("42")), 2,
                "41 42");
        String all = Rows.number(4) + END + Rows.number(-1);
        for (int k = 4; k < 8; k++) {
            read(head(125, k, all) + summed(itself(ABC)) + summed(packed("10 64")) + END
                    + sum(ABC + "64"), 4, ABC + " 64");
        }
        read(head(80, 4, "") + summed(itself("")) + END, 0, "");
        read(plainFrame(itself(ABC)) + head(68, 5, "") + itself("64") + END + sum("64"), 4,
                ABC + " 64");
    }

    private void readingBehindContent() {
        String back = packed("00 03 00 00");
        read(plainFrame(itself(ABC) + back), 8000, Rows.text("abcabca"));
        fault(head(96, 4, "") + itself(ABC) + back + END, 8000, 2, 7 + 7 + 4 + 1);
        read("01 02 03", head(96, 4, "") + itself(ABC) + back + END, 8000, ABC + " 01 02 03 01");
        read("01 02 03", plainFrame(itself("61") + back), 8000, "61 02 03 61 02");
        read("01 02 03", plainFrame(itself("61") + packed("00 04 00 00")), 8000, "61 01 02 03 61");
        fault("01 02 03", plainFrame(itself("61") + packed("00 05 00 00")), 8000, 2, 17);
        fault("01 02 03", head(96, 4, "") + itself("61") + packed("00 04 00 00") + END, 8000, 2, 17);
        // A frame's content does not reach into that of the frame ahead of it.
        fault(plainFrame(itself(ABC)) + plainFrame(back), 8000, 2, 18 + 7 + 4 + 1);
        read("01 02 03", plainFrame(itself(ABC)) + plainFrame(back), 8000, ABC + " 01 02 03 01");
    }

    private void faultOne() {
        fault("04", 8000, 1, 1);
        fault("04 22 4d", 8000, 1, 3);
        fault("ff", 8000, 1, 1);
        fault("01 02 03", 8000, 1, 3);
        fault(SPARE + "99 98 97", 8000, 1, 14);
        fault("50 2a 4d 18", 8000, 1, 4);
        fault("50 2a 4d 18 00 00 00", 8000, 1, 7);
        fault("50 2a 4d 18 02 00 00 00 01", 8000, 1, 9);
        fault("50 2a 4d 18 ff ff ff ff 01", 8000, 1, 9);
        fault("50 2a 4d 18 00 00 00 80 01", 8000, 1, 9);
        fault(head(64, 7, "") + "00 00 40 00", 8000, 1, 11);
        fault(head(64, 4, "") + "00 00 01 00", 8000, 1, 11);
        fault(head(64, 4, "") + "00 00 01 80 41", 8000, 1, 12);
    }

    /** A frame with all parts is cut in turn ahead of each of its bytes: nothing else is at fault. */
    private void faultOneOfEachCut() {
        String whole = SPARE + head(125, 4, Rows.number(8) + END + Rows.number(99)) + summed(itself(ABC))
                + summed(packed("10 64 01 00 00")) + END + sum("61 62 63 64 64 64 64 64");
        read(whole, 8, "61 62 63 64 64 64 64 64");
        for (int n = 1; n < Rows.count(whole); n++) {
            if (n != 11) {
                fault(Rows.first(n, whole), 8000, 1, n);
            }
        }
        read(Rows.first(11, whole), 8000, "");
    }

    private void faultFour() {
        fault("04 22 4d 19", 8000, 4, 0);
        fault("05 22 4d 18", 8000, 4, 0);
        fault("04 23 4d 18 40 40 c0", 8000, 4, 0);
        fault("04 22 4c 18", 8000, 4, 0);
        fault("4f 2a 4d 18 00 00 00 00", 8000, 4, 0);
        fault("60 2a 4d 18 00 00 00 00", 8000, 4, 0);
        fault("50 2b 4d 18 00 00 00 00", 8000, 4, 0);
        fault("50 2a 4e 18 00 00 00 00", 8000, 4, 0);
        fault("50 2a 4d 17 00 00 00 00", 8000, 4, 0);
        fault("00 00 00 00", 8000, 4, 0);
        fault(SPARE + plainFrame(itself(ABC)) + "00 00 00 00", 8000, 4, 11 + 18);
    }

    private void faultFive() {
        for (int flags = 0; flags < 256; flags++) {
            boolean mayBe = flags >= 64 && flags < 128 && (flags & 2) == 0;
            fault(MARK + String.format("%02x", flags), 8000, mayBe ? 1 : 5, mayBe ? 5 : 4);
        }
        for (int behind = 0; behind < 256; behind++) {
            boolean mayBe = behind == 64 || behind == 80 || behind == 96 || behind == 112;
            fault(MARK + "40" + String.format("%02x", behind), 8000, mayBe ? 1 : 5, mayBe ? 6 : 5);
        }
        fault(MARK + "00 00 00", 8000, 5, 4);
        fault(SPARE + MARK + "40 30 00", 8000, 5, 16);
    }

    private void faultSix() {
        fault(MARK + "40 40 c1", 8000, 6, 6);
        fault(MARK + "40 40 00 00 00 00 00", 8000, 6, 6);
        String sized = head(73, 4, Rows.number(0) + END + Rows.number(5)) + END;
        read(sized, 8000, "");
        for (int k = 6; k < 18; k++) {
            fault(Rows.changed(sized, k, 77), 8000, 6, 18);
        }
    }

    private void faultSeven() {
        for (int k = 4; k < 8; k++) {
            long greatest = 1L << (8 + 2 * k);
            String head = head(64, k, "");
            fault(head + Rows.number(greatest + 1), 8000, 7, 7);
            fault(head + Rows.number(greatest), 8000, 1, 11);
            fault(head + Rows.number((1L << 31) + greatest + 1), 8000, 7, 7);
            fault(head + Rows.number((1L << 31) + greatest), 8000, 1, 11);
            fault(head + "ff ff ff ff", 8000, 7, 7);
            fault(head + "ff ff ff 7f", 8000, 7, 7);
        }
        fault(head(64, 4, "") + itself(ABC) + "01 00 01 00 00 00 00 00", 8000, 7, 14);
    }

    private void faultEight() {
        String good = head(80, 4, "") + summed(itself(ABC));
        fault(head(80, 4, "") + itself(ABC) + "00 00 00 00" + END, 8000, 8, 14);
        for (int k = 14; k < 18; k++) {
            fault(Rows.changed(good, k, 0x5a), 8000, 8, 14);
        }
        fault(good + packed("10 64") + "01 02 03 04" + END, 8000, 8, 18 + 4 + 2);
        fault(head(80, 4, "") + itself("") + "00 00 00 00" + END, 8000, 8, 11);
    }

    private void faultsOfBlocks() {
        fault(plainFrame(packed("10 41 00 00 00")), 8000, 2, 11 + 2);
        fault(plainFrame(itself(ABC) + packed("10 41 05 00 00")), 8000, 2, 18 + 2);
        fault(plainFrame(packed("20 41")), 8000, 9, 13);
        fault(plainFrame(packed("f0")), 8000, 9, 12);
        fault(plainFrame(packed("10 41 01")), 8000, 9, 14);
        fault(plainFrame(packed("10 41 01 00")), 8000, 9, 15);
        fault(plainFrame(packed("1f 41 01 00 ff")), 8000, 9, 16);
        fault(head(80, 4, "") + summed(packed("20 41")) + END, 8000, 9, 13);
        fault(SPARE + plainFrame(packed("10 41") + packed("20 41")), 8000, 9, 11 + 7 + 6 + 4 + 2);
    }

    private void faultThree() {
        fault(plainFrame(itself(ABC)), 2, 3, 13);
        fault(plainFrame(itself(ABC)), 0, 3, 11);
        fault(plainFrame(itself(ABC) + itself(ABC)), 3, 3, 18);
        fault(plainFrame(itself(ABC) + itself(ABC)), 5, 3, 20);
        fault(plainFrame(packed("30" + ABC)), 2, 3, 14);
        fault(plainFrame(itself(ABC) + packed("30" + ABC)), 4, 3, 20);
        fault(plainFrame(packed("10 41 01 00 00")), 4, 3, 13);
        fault(plainFrame(itself(ABC)) + plainFrame(itself(ABC)), 4, 3, 18 + 11 + 1);
        fault(head(96, 4, "") + itself(ABC) + packed("10 41 01 00 00") + END, 7, 3, 14 + 4 + 2);
        String many = "1f 41 01 00" + Rows.times(31, "ff");
        read(plainFrame(packed(many + "4b 00")), 8000, Rows.times(8000, "41"));
        fault(plainFrame(packed(many + "4c 00")), 8000, 3, 13);
        fault(plainFrame(packed(many + "4b 00") + itself("41")), 8000, 3, 11 + 37 + 4);
        fault(plainFrame(packed(many + "4b 00")) + plainFrame(packed("10 41")), 8000, 3, 11 + 37 + 4 + 7 + 4 + 1);
    }

    private void faultsTenAndEleven() {
        fault(head(68, 4, "") + itself(ABC) + END + "00 00 00 00", 8000, 10, 18);
        String good = head(68, 4, "") + itself(ABC) + END + sum(ABC);
        for (int k = 18; k < 22; k++) {
            fault(Rows.changed(good, k, 0x33), 8000, 10, 18);
        }
        for (String size : new String[] {Rows.number(2) + END, Rows.number(4) + END, END + END,
            Rows.number(3) + Rows.number(1), Rows.number(3) + Rows.number(1L << 31),
            Rows.number(-1) + Rows.number(-1)}) {
            fault(head(72, 4, size) + itself(ABC) + END, 8000, 11, 6);
            fault(SPARE + head(76, 4, size) + itself(ABC) + END + sum(ABC), 8000, 11, 17);
            fault(head(76, 4, size) + itself(ABC) + END + "00 00 00 00", 8000, 10, 26);
            fault(head(76, 4, size) + itself(ABC) + END + "00 00 00", 8000, 1, 29);
        }
        // SIZE and sum are those of the frame's own content, not of all contents.
        String one = head(76, 4, Rows.number(1) + END) + itself("61") + END + sum("61");
        read(one + one, 8000, "61 61");
    }

    private void theFirstFault() {
        // A block that is cut, or whose sum is cut, is not looked at.
        fault(head(64, 4, "") + "05 00 00 00 10 41 00 00", 8000, 1, 15);
        fault(head(80, 4, "") + packed("10 41 00 00 00") + "01 02 03", 8000, 1, 19);
        fault(head(64, 4, "") + "05 00 00 80 61 62 63", 2, 1, 14);
        // A block's sum comes before the block, and that before what stands behind it.
        fault(head(80, 4, "") + packed("10 41 00 00 00") + "01 02 03 04", 8000, 8, 16);
        fault(head(80, 4, "") + summed(itself(ABC)), 2, 3, 13);
        fault(head(64, 4, "") + packed("10 41 00 00 00"), 8000, 2, 13);
        // A KEY that is cut is not looked at, nor is a number.
        fault(MARK + "41 40 01 02 03", 8000, 1, 9);
        fault(head(64, 4, "") + "ff ff ff", 8000, 1, 10);
        // The first frame's fault comes before the second one's.
        fault(plainFrame(packed("20 41")) + "00 00 00 00", 8000, 9, 13);
    }

    private void unframeRefused() {
        TokenFrames x = Rows.with("20 07 08");
        x.unblock(8000);
        Rows.load(x, plainFrame(itself("41")));
        for (int most : new int[] {-1, 8001, Integer.MIN_VALUE, Integer.MAX_VALUE}) {
            checks.due("unframe(" + most + ")", x.unframe(most), -12);
        }
        checks.same("OUT after refused calls", Rows.out(x), "07 08");
        checks.due("place() after refused calls", x.place(), 3);
        checks.due("unframe(1) after refused calls", x.unframe(1), 1);
    }
}
