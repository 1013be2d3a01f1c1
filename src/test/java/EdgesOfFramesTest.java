/**
 * Each sentence that names an edge of frames: promises 9 and 10, and the terms that they rest on. A test bears
 * the promise (or the term) and the sentence in its name.
 */
public final class EdgesOfFramesTest extends FrameCases {
    private static final int LEAST = Integer.MIN_VALUE;
    private static final int GREATEST = Integer.MAX_VALUE;
    private static final long HIGHEST_BIT = 1L << 31;
    private static final String ABC = Rows.text("abc");
    private static final String LETTERS = Rows.text("abcdefghijklmnop");
    private static final String EIGHT_THOUSAND_A = copy("61", 1, 7999) + "00";
    private static final Held HELD = new Held("c1 c2 c3 c4 c5 c6", ABC, "07 08 09", 5);

    private EdgesOfFramesTest() {
        super("edges of promises 9 and 10");
    }

    public static void main(String[] args) {
        EdgesOfFramesTest test = new EdgesOfFramesTest();
        Sentences.run(test, test.checks);
    }

    private static String run(int n) {
        return Rows.times(n, "61");
    }

    private static String text(String letters) {
        return Rows.text(letters) + " ";
    }

    private static String hex(int value) {
        return String.format("%02x", value);
    }

    private static boolean mayBeFlags(int flags) {
        return flags == 64 + (flags & 32) + (flags & 16) + (flags & 8) + (flags & 4) + (flags & 1);
    }

    /** A head with any FLAGS that may be, its SIZE and KEY being these. */
    private static String head(int flags, long size, int key) {
        return head(flags, 4, ((flags & 8) != 0 ? size(size) : "") + ((flags & 1) != 0 ? Rows.number(key) : ""));
    }

    /** A whole frame with any FLAGS that may be; its one row stands for itself. */
    private static String frameOf(int flags, String content) {
        String block = content.isEmpty() ? "" : itself(content);
        return head(flags, Rows.count(content), 7) + ((flags & 16) != 0 && !block.isEmpty() ? summed(block) : block)
                + END + ((flags & 4) != 0 ? sum(content) : "");
    }

    // --- Terms: a FRAME

    @Says("Terms: A FRAME: the bytes 4, 34, 77, 24")
    void termsFrameEachByteOfTheMark() {
        String good = plainFrame(itself(ABC));
        read(good, 8000, ABC);
        int[] mark = {4, 34, 77, 24};
        for (int k = 0; k < 4; k++) {
            for (int bit = 0; bit < 8; bit++) {
                fault(Rows.changed(good, k, mark[k] ^ 1 << bit), 8000, 4, 0);
            }
        }
        fault("18 4d 22 04" + good.substring(11), 8000, 4, 0);
    }

    @Says("Terms: FLAGS: 64, and of 32 (ALONE), 16, 8, 4, 1 any.")
    void termsFrameEachByteOfFlags() {
        for (int flags = 0; flags < 256; flags++) {
            if (mayBeFlags(flags)) {
                read(frameOf(flags, ABC), 8000, ABC);
                written("", ABC, flags, 8000, 0, frameOf(flags, ABC));
            } else {
                fault(headOf(hex(flags) + "40") + itself(ABC) + END, 8000, 5, 4);
            }
        }
    }

    @Says("Terms: a byte of 16 * k, k being 4 .. 7")
    void termsFrameEachByteBehindFlags() {
        for (int behind = 0; behind < 256; behind++) {
            String frame = headOf("40" + hex(behind)) + itself(ABC) + END;
            if (behind == 64 || behind == 80 || behind == 96 || behind == 112) {
                read(frame, 8000, ABC);
            } else {
                fault(frame, 8000, 5, 5);
            }
        }
    }

    @Says("Terms: with flag 8, SIZE, how many bytes the frame's CONTENT has, in 8 bytes")
    void termsFrameSizeOfNothingAndOfAFullContent() {
        written("", "", 72, 8000, 0, head(72, 0, 0) + END);
        read(head(72, 0, 0) + END, 0, "");
        read(head(72, 0, 0) + itself("") + END, 0, "");
        read(head(72, 8000, 0) + packed(EIGHT_THOUSAND_A) + END, 8000, run(8000));
        for (int n : new int[] {1, 255, 256, 257, 8000}) {
            String block = n == 1 ? itself("61") : packed(copy("61", 1, n - 6) + "50" + run(5));
            written("", run(n), 72, 8000, 0, head(72, n, 0) + block + END);
            read(head(72, n, 0) + block + END, n, run(n));
        }
        checks.same("SIZE 256", size(256), "00010000" + "00000000");
    }

    @Says("Terms: with flag 1, a KEY, 4 bytes")
    void termsFrameAnyKey() {
        for (int key : new int[] {0, 1, -1, 255, 256, LEAST, GREATEST, 0x01020304}) {
            for (int flags : new int[] {64, 65, 73}) {
                TokenFrames x = HELD.make();
                String want = head(flags, 3, key) + itself(ABC) + END;
                String call = "frame(" + flags + ", 4, " + key + ", 8000, 0)";
                checks.due(call, x.frame(flags, 4, key, 8000, 0), Rows.count(want));
                HELD.withOut(want).check(checks, call, x);
                read(want, 8000, ABC);
            }
        }
        checks.same("the KEY 16909060", Rows.number(0x01020304), "04030201");
    }

    @Says("Terms: a byte that is bits 8 .. 15 of the NARROW SUM of all from FLAGS on")
    void termsFrameEachByteOfTheHeadsSum() {
        // This head is a widely known one: its byte is 192.
        for (int sum = 0; sum < 256; sum++) {
            String frame = MARK + "40 40" + hex(sum) + itself(ABC) + END;
            if (sum == 192) {
                read(frame, 8000, ABC);
            } else {
                fault(frame, 8000, 6, 6);
            }
        }
        // SIZE and KEY are summed up, too.
        String good = head(73, 3, 7) + itself(ABC) + END;
        for (int k = 6; k < 18; k++) {
            fault(Rows.changed(good, k, 0x5a), 8000, 6, 18);
        }
    }

    @Says("Terms: a number m above 0 and below 2^31, or 2^31 + m (m may be 0 then)")
    void termsFrameTheNumberOfABlock() {
        // 0 is no number of a block but the end; 1 is the least; 2^31 stands for none.
        read(plainFrame(""), 0, "");
        fault(plainFrame("") + "00", 8000, 1, 12);
        read(plainFrame("01 00 00 00 00"), 0, "");
        read(plainFrame("00 00 00 80"), 0, "");
        read(plainFrame("00 00 00 80 00 00 00 80 01 00 00 80 61"), 1, "61");
        read(plainFrame("01 00 00 80 61"), 1, "61");
        read(head(80, 4, "") + summed(itself("")) + END, 0, "");
        fault(head(80, 4, "") + itself("") + END + END, 0, 8, 11);
    }

    @Says("Terms: m bytes, at most 2^(8 + 2 k)")
    void termsFault7WhenMIsTooGreat() {
        for (int k = 4; k < 8; k++) {
            long greatest = 1L << 8 + 2 * k;
            String head = head(64, k, "");
            for (long itself : new long[] {0, HIGHEST_BIT}) {
                // The greatest one is more than IN can have: IN ends within the block.
                fault(head + Rows.number(itself + greatest - 1) + ABC, 8000, 1, 14);
                fault(head + Rows.number(itself + greatest) + ABC, 8000, 1, 14);
                fault(head + Rows.number(itself + greatest + 1) + ABC, 8000, 7, 7);
                fault(head + Rows.number(itself + greatest + 1), 8000, 7, 7);
                fault(head + Rows.number(itself + HIGHEST_BIT - 1) + ABC, 8000, 7, 7);
                fault(head + packed("10 61") + Rows.number(itself + greatest + 1) + END, 8000, 7, 13);
            }
        }
    }

    @Says("Terms: it stands for at most 2^(8 + 2 k) bytes")
    void termsFrameABlockStandsForAllThatMayBe() {
        // The least bound, 65536, is beyond the 8000 bytes that there may be.
        for (int k = 4; k < 8; k++) {
            read(head(64, k, "") + packed(EIGHT_THOUSAND_A) + END, 8000, run(8000));
            fault(head(64, k, "") + packed(copy("61", 1, 8000) + "00") + END, 8000, 3, 7 + 4 + 2);
        }
    }

    @Says("Terms: a BLOCK, whose HISTORY is the content so far behind HISTORY")
    void termsFrameABlockReachesBackIntoTheContentAndHistory() {
        String history = "c1 c2 c3";
        // The first block has HISTORY alone, the second one the three bytes of the first, too.
        read(history, plainFrame(packed("00 03 00 00")), 8000, "c1 c2 c3 c1");
        fault(history, plainFrame(packed("00 04 00 00")), 8000, 2, 12);
        read(history, plainFrame(itself(ABC) + packed("00 06 00 00")), 8000, ABC + "c1 c2 c3 61");
        fault(history, plainFrame(itself(ABC) + packed("00 07 00 00")), 8000, 2, 19);
        read(history, plainFrame(itself(ABC) + packed("10 64 07 00 00")), 8000, ABC + "64 c1 c2 c3 61");
        fault(history, plainFrame(itself(ABC) + packed("10 64 08 00 00")), 8000, 2, 20);
        // Without HISTORY the content alone.
        fault(plainFrame(packed("00 01 00 00")), 8000, 2, 12);
        read(plainFrame(itself(ABC) + packed("00 03 00 00")), 8000, ABC + ABC + "61");
        fault(plainFrame(itself(ABC) + packed("00 04 00 00")), 8000, 2, 19);
        // Another frame's content is not that frame's.
        read(history, plainFrame(itself(ABC)) + plainFrame(packed("00 03 00 00")), 8000, ABC + "c1 c2 c3 c1");
        fault(history, plainFrame(itself(ABC)) + plainFrame(packed("00 04 00 00")), 8000, 2, 18 + 12);
    }

    @Says("Terms: a BLOCK, whose HISTORY is the content so far behind HISTORY")
    void termsFrameAFullHistoryAndTheGreatestDistance() {
        String history = "c1 c2 c3 c4" + run(7996);
        String ahead = packed(copy("62", 1, 7995) + "00");
        String want = Rows.times(7996, "62") + "c1 c2 c3 c4";
        read(history, plainFrame(ahead + packed("00" + pair(15996) + "00")), 8000, want);
        fault(history, plainFrame(ahead + packed("00" + pair(15997) + "00")), 8000, 2, 7 + Rows.count(ahead) + 5);
        read(history, head(96, 4, "") + ahead + packed("00" + pair(8000) + "00") + END, 8000, want);
        fault(history, head(96, 4, "") + ahead + packed("00" + pair(8001) + "00") + END, 8000, 2,
                7 + Rows.count(ahead) + 5);
    }

    @Says("Terms: but with ALONE HISTORY alone")
    void termsFrameABlockOfAFrameThatIsAloneReachesBackIntoHistoryAlone() {
        String history = "c1 c2 c3";
        String alone = head(96, 4, "");
        read(history, alone + packed("00 03 00 00") + END, 8000, "c1 c2 c3 c1");
        fault(history, alone + packed("00 04 00 00") + END, 8000, 2, 12);
        read(history, alone + itself(ABC) + packed("00 03 00 00") + END, 8000, ABC + "c1 c2 c3 c1");
        fault(history, alone + itself(ABC) + packed("00 04 00 00") + END, 8000, 2, 19);
        read(history, alone + itself(ABC) + packed("10 64 04 00 00") + END, 8000, ABC + "64 c1 c2 c3 64");
        fault(history, alone + itself(ABC) + packed("10 64 05 00 00") + END, 8000, 2, 20);
        fault(alone + itself(ABC) + packed("00 01 00 00") + END, 8000, 2, 19);
        read(alone + itself(ABC) + packed("10 64 01 00 00") + END, 8000, ABC + Rows.times(5, "64"));
    }

    @Says("Terms: but with ALONE HISTORY alone")
    void termsFrameNoOtherFlagMakesABlockAlone() {
        for (int flags = 64; flags < 128; flags++) {
            if (mayBeFlags(flags)) {
                boolean sums = (flags & 16) != 0;
                boolean alone = (flags & 32) != 0;
                String first = itself(LETTERS);
                String second = packed("07 10 00 50" + text("lmnop"));
                String head = head(flags, 32, 7);
                String tail = END + ((flags & 4) != 0 ? sum(LETTERS + LETTERS) : "");
                String both = head + (sums ? summed(first) + summed(second) : first + second) + tail;
                String firstTwice = head + (sums ? summed(first) + summed(first) : first + first) + tail;
                writtenByAll("", LETTERS + LETTERS, flags, 16, alone ? firstTwice : both);
                if (alone) {
                    fault(both, 8000, 2, Rows.count(head) + 4 + 16 + (sums ? 4 : 0) + 4 + 1);
                } else {
                    read(both, 32, LETTERS + LETTERS);
                }
            }
        }
    }

    @Says("Terms: with flag 16 their NARROW SUM, 4 bytes")
    void termsFault8EachByteOfABlocksSum() {
        for (String block : new String[] {itself(ABC), packed("30" + ABC), itself("")}) {
            String good = head(80, 4, "") + summed(block) + END;
            int at = 7 + Rows.count(block);
            read(good, 8000, block.equals(itself("")) ? "" : ABC);
            for (int k = at; k < at + 4; k++) {
                int value = Integer.parseInt(good.replace(" ", "").substring(2 * k, 2 * k + 2), 16);
                fault(Rows.changed(good, k, value ^ 1), 8000, 8, at);
                fault(Rows.changed(good, k, value ^ 128), 8000, 8, at);
            }
        }
        // The sum is that of the m bytes, not of what they stand for.
        fault(head(80, 4, "") + packed("30" + ABC) + sum(ABC) + END, 8000, 8, 15);
    }

    @Says("Terms: Behind the blocks 4 bytes 0; with flag 4 the NARROW SUM of the content, 4 bytes.")
    void termsFrameTheContentsSumOfNothingAndOfAFullContent() {
        read(head(68, 4, "") + END + sum(""), 0, "");
        read(head(68, 4, "") + itself("") + END + "05 5d cc 02", 0, "");
        read(head(68, 4, "") + packed(EIGHT_THOUSAND_A) + END + sum(run(8000)), 8000, run(8000));
        fault(head(68, 4, "") + packed(EIGHT_THOUSAND_A) + END + sum(run(7999)), 8000, 10, 7 + 4 + 37 + 4);
        written("", "", 68, 8000, 0, head(68, 4, "") + END + "05 5d cc 02");
    }

    @Says("Terms: SPARE bytes: a byte 80 .. 95, 42, 77, 24")
    void termsSpareEachFirstByteAndTheOthers() {
        for (int first = 0; first < 256; first++) {
            String spare = hex(first) + "2a 4d 18 01 00 00 00 99";
            if (first >= 80 && first <= 95) {
                read(spare, 0, "");
            } else {
                fault(spare, 8000, 4, 0);
            }
        }
        int[] mark = {80, 42, 77, 24};
        for (int k = 1; k < 4; k++) {
            for (int bit = 0; bit < 8; bit++) {
                fault(Rows.changed("50 2a 4d 18 01 00 00 00 99", k, mark[k] ^ 1 << bit), 8000, 4, 0);
            }
        }
    }

    @Says("Terms: a number in 4 bytes, and as many bytes, which count for nothing")
    void termsSpareAsManyBytesAsTheNumberSays() {
        read("50 2a 4d 18 00 00 00 00", 0, "");
        fault("50 2a 4d 18 01 00 00 00", 8000, 1, 8);
        read("50 2a 4d 18 01 00 00 00 99", 0, "");
        fault("50 2a 4d 18 00 00 00 00 99", 8000, 1, 9);
        fault("50 2a 4d 18 00 00 00 00 99 99 99 99", 8000, 4, 8);
        read("50 2a 4d 18 00 01 00 00" + Rows.times(256, "99"), 0, "");
        fault("50 2a 4d 18 00 01 00 00" + Rows.times(255, "99"), 8000, 1, 263);
        read("5f 2a 4d 18 38 1f 00 00" + Rows.times(7992, "99"), 0, "");
        fault("5f 2a 4d 18 39 1f 00 00" + Rows.times(7992, "99"), 8000, 1, 8000);
        // The greatest numbers do not wrap around.
        for (long n : new long[] {65536, HIGHEST_BIT - 1, HIGHEST_BIT, HIGHEST_BIT + 1, -8, -1}) {
            fault("50 2a 4d 18" + Rows.number(n) + "99", 8000, 1, 9);
        }
        // A frame within them is none, nor is it content that a frame's block reaches back to.
        read("50 2a 4d 18 12 00 00 00" + plainFrame(itself(ABC)) + plainFrame(itself("64")), 1, "64");
        fault(SPARE + plainFrame(packed("00 01 00 00")), 8000, 2, 11 + 12);
    }

    // --- Terms: reading frames

    @Says("Terms: Reading frames (and spare ones), one behind the other up to the end of IN: OUT is their contents")
    void termsReadingOfNoneOfOneAndOfMore() {
        read("", 0, "");
        read("c1 c2 c3", "", 8000, "");
        read(plainFrame(itself(ABC)), 3, ABC);
        read(plainFrame(itself(ABC)) + plainFrame(itself("64")), 4, ABC + "64");
        read(plainFrame("") + plainFrame("") + plainFrame(itself("64")) + plainFrame(""), 1, "64");
        read(SPARE + plainFrame(itself(ABC)) + SPARE + SPARE + plainFrame(itself("64")) + SPARE, 4, ABC + "64");
        read(frameOf(125, ABC) + frameOf(64, "64") + frameOf(125, "65 66"), 6, ABC + "64 65 66");
        // A full IN: one frame and spare bytes up to the end.
        String frame = plainFrame(itself(ABC));
        read(frame + "50 2a 4d 18" + Rows.number(8000 - 18 - 8) + Rows.times(8000 - 18 - 8, "99"), 3, ABC);
    }

    @Says("Terms: 1 IN ends within a frame or spare bytes (PLACE is the end")
    void termsFault1AtEachByteOfEachKindOfFrame() {
        for (int flags = 64; flags < 128; flags++) {
            if (mayBeFlags(flags)) {
                String whole = head(flags, 8, 7) + ((flags & 16) != 0
                        ? summed(itself(ABC)) + summed(packed("10 64 01 00 00"))
                        : itself(ABC) + packed("10 64 01 00 00"))
                        + END + ((flags & 4) != 0 ? sum(ABC + "64 64 64 64 64") : "");
                read(whole, 8, ABC + "64 64 64 64 64");
                for (int n = 1; n < Rows.count(whole); n++) {
                    fault(Rows.first(n, whole), 8000, 1, n);
                }
            }
        }
        for (int n = 1; n < 11; n++) {
            fault(Rows.first(n, SPARE), 8000, 1, n);
            fault(plainFrame(itself(ABC)) + Rows.first(n, SPARE), 8000, 1, 18 + n);
        }
    }

    @Says("Terms: but FLAGS and the byte behind them are looked at one by one")
    void termsFault5ComesBefore1OfWhatIsCut() {
        // Nothing is there behind FLAGS, or behind the byte behind them.
        fault(MARK, 8000, 1, 4);
        fault(MARK + "3f", 8000, 5, 4);
        fault(MARK + "40", 8000, 1, 5);
        fault(MARK + "40 30", 8000, 5, 5);
        fault(MARK + "40 40", 8000, 1, 6);
        fault(MARK + "49 80", 8000, 5, 5);
        fault(MARK + "49 70", 8000, 1, 6);
        // Both are wrong.
        fault(MARK + "3f 30", 8000, 5, 4);
    }

    @Says("Terms: and what is there ahead of the cut")
    void termsFaultsOfWhatIsThereComeBefore1() {
        fault(MARK + "40 40 c1", 8000, 6, 6);
        fault(head(64, 4, "") + packed("20 61"), 8000, 9, 13);
        fault(head(64, 4, "") + packed("10 61 00 00 00"), 8000, 2, 13);
        fault(head(64, 4, "") + itself(ABC), 2, 3, 13);
        fault(head(80, 4, "") + itself(ABC) + "00 00 00 00", 8000, 8, 14);
        fault(head(64, 4, "") + packed("20 61") + "00 00 00", 8000, 9, 13);
        fault(head(64, 4, "") + Rows.number(65537), 8000, 7, 7);
        fault(plainFrame(packed("20 61")) + "04", 8000, 9, 13);
        fault("04 22 4d 19" + "04", 8000, 4, 0);
    }

    @Says("Terms: with fewer than four bytes at a beginning, too")
    void termsFault1WithFewerThanFourBytesAtABeginning() {
        for (String beginning : new String[] {"04", "04 22", "04 22 4d", "50", "50 2a", "50 2a 4d", "00", "ff ff",
            "01 02 03"}) {
            fault(beginning, 8000, 1, Rows.count(beginning));
            fault(plainFrame(itself(ABC)) + beginning, 8000, 1, 18 + Rows.count(beginning));
            fault(SPARE + beginning, 8000, 1, 11 + Rows.count(beginning));
        }
        fault("01 02 03 04", 8000, 4, 0);
        fault(plainFrame(itself(ABC)) + "01 02 03 04", 8000, 4, 18);
        fault(SPARE + "01 02 03 04", 8000, 4, 11);
    }

    @Says("Terms: a number, a KEY, a SUM that is cut is not looked at")
    void termsFault1OfWhatIsCutIsNotLookedAt() {
        // Three bytes of a number that would be too great, of one that would be the end.
        fault(head(64, 4, "") + "ff ff ff", 8000, 1, 10);
        fault(head(64, 4, "") + "00 00 00", 8000, 1, 10);
        fault("50 2a 4d 18 00 00 00", 8000, 1, 7);
        // SIZE and KEY with the head's sum, a block's sum, the content's sum.
        fault(MARK + "48 40 ff ff ff ff ff ff ff", 8000, 1, 13);
        fault(MARK + "48 40 ff ff ff ff ff ff ff ff", 8000, 1, 14);
        fault(MARK + "41 40 ff ff ff", 8000, 1, 9);
        fault(MARK + "41 40 ff ff ff ff", 8000, 1, 10);
        fault(head(80, 4, "") + itself(ABC) + "ff ff ff", 8000, 1, 17);
        fault(head(68, 4, "") + itself(ABC) + END + "ff ff ff", 8000, 1, 21);
        // SIZE is looked at behind the content's sum.
        fault(head(76, 4, size(9)) + itself(ABC) + END + "ff ff ff", 8000, 1, 29);
    }

    @Says("Terms: nor is a block that is cut or whose sum is")
    void termsFault1OfABlockThatIsCut() {
        // What is there of the block has a fault of its own.
        fault(head(64, 4, "") + "06 00 00 00 10 61 00 00 00", 8000, 1, 16);
        fault(head(64, 4, "") + "04 00 00 80" + ABC, 2, 1, 14);
        fault(head(64, 4, "") + "04 00 00 80" + ABC, 0, 1, 14);
        fault(head(80, 4, "") + packed("10 61 00 00 00"), 8000, 1, 16);
        fault(head(80, 4, "") + packed("10 61 00 00 00") + "01 02 03", 8000, 1, 19);
        fault(head(80, 4, "") + itself(ABC) + "01 02 03", 2, 1, 17);
        fault(head(80, 4, "") + packed("20 61") + "01 02 03", 8000, 1, 16);
        // The byte that completes it.
        fault(head(64, 4, "") + "05 00 00 00 10 61 00 00 00", 8000, 2, 13);
        fault(head(80, 4, "") + packed("10 61 00 00 00") + sum("10 61 00 00 00"), 8000, 2, 13);
        fault(head(80, 4, "") + itself(ABC) + sum(ABC), 2, 3, 13);
    }

    @Says("Terms: 4 neither a frame nor spare bytes begin there")
    void termsFault4WhereNeitherBegins() {
        fault("00 00 00 00", 8000, 4, 0);
        fault("ff ff ff ff", 0, 4, 0);
        fault(plainFrame(itself(ABC)) + END, 8000, 4, 18);
        fault(SPARE + END + plainFrame(itself(ABC)), 8000, 4, 11);
        fault(plainFrame(itself(ABC)) + SPARE + "04 22 4d 1c", 8000, 4, 29);
    }

    @Says("Terms: 5 FLAGS or the byte behind them are none that may be .. (of 5: the wrong one of both bytes")
    void termsFault5TheWrongOneOfBothBytes() {
        fault(headOf("00 40") + END, 8000, 5, 4);
        fault(headOf("40 00") + END, 8000, 5, 5);
        fault(headOf("00 00") + END, 8000, 5, 4);
        fault(headOf("42 40") + END, 8000, 5, 4);
        fault(headOf("c0 40") + END, 8000, 5, 4);
        fault(headOf("40 41") + END, 8000, 5, 5);
        fault(headOf("40 c0") + END, 8000, 5, 5);
        // Before 6: the sum is wrong, too.
        fault(MARK + "40 80 00", 8000, 5, 5);
        fault(SPARE + MARK + "20 40 00", 8000, 5, 15);
        fault(plainFrame("") + MARK + "40 30 00", 8000, 5, 11 + 5);
    }

    @Says("Terms: 6 the byte of the sum is another one")
    void termsFault6TheByteOfTheSum() {
        fault(MARK + "40 40 c1" + END, 8000, 6, 6);
        fault(MARK + "40 40 bf" + END, 8000, 6, 6);
        // Before 7, before 1 behind it, and of a frame behind another one.
        fault(MARK + "40 40 00 ff ff ff ff", 8000, 6, 6);
        fault(MARK + "40 40 00", 8000, 6, 6);
        fault(plainFrame("") + MARK + "40 40 c1", 8000, 6, 17);
    }

    @Says("Terms: 7 m is too great (before the block's bytes are looked for)")
    void termsFault7BeforeTheBlocksBytesAreLookedFor() {
        fault(head(64, 4, "") + Rows.number(65537), 8000, 7, 7);
        fault(head(64, 4, "") + Rows.number(65536), 8000, 1, 11);
        fault(head(80, 4, "") + Rows.number(HIGHEST_BIT + 65537) + ABC, 8000, 7, 7);
        fault(SPARE + plainFrame(itself(ABC)) + head(64, 4, "") + itself(ABC) + Rows.number(-1), 8000, 7, 11 + 18 + 14);
    }

    @Says("Terms: 8 a block's sum is another one (before it is read)")
    void termsFault8BeforeTheBlockIsRead() {
        fault(head(80, 4, "") + packed("10 61 00 00 00") + END, 8000, 8, 16);
        fault(head(80, 4, "") + packed("20 61") + END, 8000, 8, 13);
        fault(head(80, 4, "") + itself(ABC) + END, 0, 8, 14);
        fault(head(80, 4, "") + packed("10 61 00 00 00") + sum("10 61 00 00 00") + END, 8000, 2, 13);
        fault(head(80, 4, "") + summed(itself(ABC)) + packed("20 61") + END, 8000, 8, 18 + 6);
    }

    @Says("Terms: 9 a block's bytes end where something has to come (as 1 in a block: PLACE is the block's end)")
    void termsFault9WhereSomethingHasToComeInABlock() {
        for (String block : new String[] {"f0", "f0 ff", "10", "20 61", "f0 00 61", "10 61 01", "10 61 01 00",
            "1f 61 01 00", "1f 61 01 00 ff"}) {
            int end = 7 + 4 + Rows.count(block);
            fault(plainFrame(packed(block)), 8000, 9, end);
            fault(plainFrame(packed(block) + itself(ABC)), 8000, 9, end);
            fault(head(64, 4, "") + packed(block), 8000, 9, end);
            fault(head(80, 4, "") + summed(packed(block)) + END, 8000, 9, end);
            fault(head(68, 4, "") + packed(block) + END + "00 00 00 00", 8000, 9, end);
        }
    }

    @Says("Terms: 2 and 3 as in a block")
    void termsFaults2And3AsInABlock() {
        fault(plainFrame(packed("10 61 00 00 00")), 8000, 2, 11 + 2);
        fault(plainFrame(packed("10 61 02 00 00")), 8000, 2, 11 + 2);
        fault(plainFrame(packed("1f 61 02 00")), 8000, 2, 11 + 2);
        read(plainFrame(packed("30" + ABC)), 3, ABC);
        fault(plainFrame(packed("30" + ABC)), 2, 3, 11 + 3);
        fault(plainFrame(packed("30" + ABC)), 0, 3, 11 + 1);
        read(plainFrame(packed("10 61 01 00 00")), 5, run(5));
        fault(plainFrame(packed("10 61 01 00 00")), 4, 3, 11 + 2);
        fault(plainFrame(itself(ABC) + packed("50 61 62 63")), 5, 3, 18 + 3);
        fault(plainFrame(itself(ABC) + packed("50 61 62 63")), 6, 9, 18 + 4);
    }

    @Says("Terms: (of one that stands for itself, 3: PLACE is its first byte that is too many)")
    void termsFault3TheFirstByteThatIsTooManyOfOneThatStandsForItself() {
        read(plainFrame(itself(ABC)), 3, ABC);
        fault(plainFrame(itself(ABC)), 2, 3, 11 + 2);
        fault(plainFrame(itself(ABC)), 1, 3, 11 + 1);
        fault(plainFrame(itself(ABC)), 0, 3, 11);
        read(plainFrame(itself(ABC) + itself("") + itself(ABC)), 6, ABC + ABC);
        fault(plainFrame(itself(ABC) + itself("") + itself(ABC)), 5, 3, 11 + 3 + 4 + 4 + 2);
        fault(plainFrame(itself(ABC) + itself("") + itself(ABC)), 3, 3, 11 + 3 + 4 + 4);
        fault(head(80, 4, "") + summed(itself(ABC)) + END, 2, 3, 11 + 2);
    }

    @Says("Terms: 3 also when there are more than 8000 bytes of content so far, or than may be")
    void termsFault3WhenThereAreMoreThan8000BytesOfContentSoFar() {
        String full = packed(EIGHT_THOUSAND_A);
        int behind = 7 + Rows.count(full);
        read(plainFrame(full), 8000, run(8000));
        read(plainFrame(full + itself("") + packed("00")), 8000, run(8000));
        fault(plainFrame(full + itself("61")), 8000, 3, behind + 4);
        fault(plainFrame(full + packed("10 61")), 8000, 3, behind + 5);
        fault(plainFrame(full + packed("00 01 00 00")), 8000, 3, behind + 5);
        fault(plainFrame(packed(copy("61", 1, 8000) + "00")), 8000, 3, 13);
        String almost = packed(copy("61", 1, 7998) + "00");
        read(plainFrame(almost + itself("62")), 8000, run(7999) + "62");
        fault(plainFrame(almost + itself("62 63")), 8000, 3, 7 + Rows.count(almost) + 5);
        fault(plainFrame(almost + itself("62")), 7999, 3, 7 + Rows.count(almost) + 4);
        // With ALONE, too: what is counted is the content, not the block.
        fault(head(96, 4, "") + full + packed("10 61") + END, 8000, 3, behind + 5);
        fault(head(96, 4, "") + itself(ABC) + packed("10 61 01 00 00") + END, 7, 3, 20);
        read(head(96, 4, "") + itself(ABC) + packed("10 61 01 00 00") + END, 8, ABC + run(5));
    }

    @Says("Terms: 10 the content's sum is another one")
    void termsFault10EachByteOfTheContentsSum() {
        String good = head(68, 4, "") + itself(ABC) + END + sum(ABC);
        read(good, 8000, ABC);
        for (int k = 18; k < 22; k++) {
            int value = Integer.parseInt(good.replace(" ", "").substring(2 * k, 2 * k + 2), 16);
            fault(Rows.changed(good, k, value ^ 1), 8000, 10, 18);
            fault(Rows.changed(good, k, value ^ 128), 8000, 10, 18);
        }
        // The sum is that of the frame's own content.
        read(good + good, 8000, ABC + ABC);
        fault(good + head(68, 4, "") + itself(ABC) + END + sum(ABC + ABC), 8000, 10, 22 + 18);
        fault("c1 c2 c3", head(68, 4, "") + itself(ABC) + END + sum("c1 c2 c3" + ABC), 8000, 10, 18);
    }

    @Says("Terms: 11 SIZE is another one than the content's (after that) .. of 11: where SIZE stands")
    void termsFault11EachByteOfSize() {
        read(head(72, 3, 0) + itself(ABC) + END, 8000, ABC);
        for (long size : new long[] {2, 4, 0, -1, Long.MIN_VALUE, Long.MAX_VALUE}) {
            sizeIsAnotherOne(size);
        }
        for (int bit = 0; bit < 64; bit++) {
            sizeIsAnotherOne(3 ^ 1L << bit);
        }
        // SIZE is that of the frame's own content.
        String good = head(72, 3, 0) + itself(ABC) + END;
        read(good + good, 8000, ABC + ABC);
        fault(good + head(72, 6, 0) + itself(ABC) + END, 8000, 11, 26 + 6);
        // It is looked at when all of the frame was read.
        fault(head(72, 2, 0) + itself(ABC), 8000, 1, 22);
        fault(head(72, 2, 0) + packed("20 61") + END, 8000, 9, 21);
    }

    private void sizeIsAnotherOne(long size) {
        fault(head(72, size, 0) + itself(ABC) + END, 8000, 11, 6);
        fault(SPARE + head(77, size, 5) + itself(ABC) + END + sum(ABC), 8000, 11, 11 + 6);
        fault(head(76, size, 0) + itself(ABC) + END + "00 00 00 00", 8000, 10, 15 + 7 + 4);
    }

    // --- Promise 9

    private void frameKeeps(Held held, int flags, int k, int cut, int way) {
        TokenFrames x = held.make();
        String call = "frame(" + flags + ", " + k + ", 7, " + cut + ", " + way + ")";
        checks.due(call, x.frame(flags, k, 7, cut, way), -1);
        held.check(checks, call, x);
    }

    @Says("Promise 9: -1, refused, when flags are none that may be")
    void promise9RefusedWhenFlagsAreNoneThatMayBe() {
        for (int flags = -10; flags < 520; flags++) {
            if (!mayBeFlags(flags)) {
                frameKeeps(HELD, flags, 4, 8000, 0);
            }
        }
        for (int flags : new int[] {LEAST, LEAST + 64, GREATEST, -64, -192, 64 + 65536, 64 + (1 << 30)}) {
            frameKeeps(HELD, flags, 4, 8000, 0);
            frameKeeps(HELD.withIn(""), flags, 4, 8000, 0);
        }
        written("", ABC, 64, 8000, 0, frameOf(64, ABC));
        written("", ABC, 125, 8000, 0, frameOf(125, ABC));
    }

    @Says("Promise 9: k not 4 .. 7")
    void promise9RefusedWhenKIsNot4To7() {
        for (int k : new int[] {3, 8, 0, -1, -4, 2, 9, 20, 64, 256 + 4, 1 << 28, LEAST, LEAST + 4, GREATEST}) {
            frameKeeps(HELD, 64, k, 8000, 0);
            frameKeeps(HELD.withIn(""), 64, k, 8000, 0);
        }
        for (int k = 4; k <= 7; k++) {
            TokenFrames x = HELD.make();
            String want = head(64, k, "") + itself(ABC) + END;
            checks.due("frame with k " + k, x.frame(64, k, 7, 8000, 0), Rows.count(want));
            HELD.withOut(want).check(checks, "frame with k " + k, x);
        }
    }

    @Says("Promise 9: cut not 1 .. 8000")
    void promise9RefusedWhenCutIsNot1To8000() {
        for (int cut : new int[] {0, -1, 8001, 8002, -8000, 65536, LEAST, LEAST + 1, LEAST + 8000, GREATEST}) {
            frameKeeps(HELD, 64, 4, cut, 0);
            frameKeeps(HELD.withIn(""), 64, 4, cut, 0);
        }
        writtenByAll("", ABC, 64, 1, plainFrame(itself("61") + itself("62") + itself("63")));
        writtenByAll("", ABC, 64, 8000, plainFrame(itself(ABC)));
    }

    @Says("Promise 9: the way not 0 .. 3")
    void promise9RefusedWhenTheWayIsNot0To3() {
        for (int way : new int[] {-1, 4, -2, 5, 256, 1 << 16, LEAST, LEAST + 1, LEAST + 3, GREATEST}) {
            frameKeeps(HELD, 64, 4, 8000, way);
            frameKeeps(HELD.withIn(""), 64, 4, 8000, way);
        }
        writtenByAll("", ABC, 64, 8000, plainFrame(itself(ABC)));
    }

    @Says("Promise 9: or there would be more than 8000")
    void promise9RefusedWhenThereWouldBeMoreThan8000() {
        TokenFrames x = Rows.withoutMatches(7985);
        checks.due("frame of 7985 bytes", x.frame(64, 4, 0, 8000, 3), 8000);
        int sum = x.sum();
        for (int flags : new int[] {65, 68, 72, 80, 125}) {
            checks.due("frame with flags " + flags, x.frame(flags, 4, 0, 8000, 3), -1);
        }
        checks.due("frame of two rows", x.frame(64, 4, 0, 7984, 3), -1);
        x.write(1, 1);
        checks.due("frame of 7986 bytes", x.frame(64, 4, 0, 8000, 3), -1);
        checks.due("size() after refused calls", x.size(), 8000);
        checks.due("PLACE after refused calls", x.place(), 0);
        x.turn();
        checks.due("unframe of the 8000 bytes", x.unframe(8000), 7985);
        x.turn();
        checks.due("sum of the 7985 bytes", x.sum(), sum);
    }

    @Says("Promise 9: or there would be more than 8000")
    void promise9RefusedAtEachPartThatHasNoRoom() {
        // n rows of a byte: 5 bytes each, 9 with their sums; 11 for the rest, and what the flags bring.
        int[][] rows = {{64, 1597, 7996}, {65, 1597, 8000}, {72, 1596, 7999}, {68, 1597, 8000}, {69, 1596, 7999},
            {73, 1595, 7998}, {76, 1595, 7998}, {77, 1594, 7997}, {80, 887, 7994}, {84, 887, 7998}, {125, 885, 7992},
            {96, 1597, 7996}};
        for (int[] each : rows) {
            TokenFrames x = Rows.with(run(each[1]));
            String call = "frame(" + each[0] + ", 4, 0, 1, 0) of ";
            checks.due(call + each[1], x.frame(each[0], 4, 0, 1, 0), each[2]);
            x.write(0x61, 1);
            checks.due(call + (each[1] + 1), x.frame(each[0], 4, 0, 1, 0), -1);
            checks.due("size() after that", x.size(), each[2]);
            checks.due("sum of IN after that", x.sum(), (int) Rows.sum(run(each[1] + 1)));
        }
        // A full IN has no room in one row that stands for itself; packed it has.
        TokenFrames x = Rows.with(run(8000));
        checks.due("frame of a full IN in rows of a byte", x.frame(64, 4, 0, 1, 0), -1);
        checks.due("frame of a full IN", x.frame(64, 4, 0, 8000, 0), 7 + 4 + 42 + 4);
    }

    @Says("Promise 9: its content in rows of cut bytes (the last one with what is left)")
    void promise9TheLastRowHasWhatIsLeft() {
        String row = Rows.plain(24).replace(" ", "");
        writtenByAll("", row, 64, 25, plainFrame(itself(row)));
        writtenByAll("", row, 64, 24, plainFrame(itself(row)));
        writtenByAll("", row, 64, 23, plainFrame(itself(row.substring(0, 46)) + itself(row.substring(46))));
        writtenByAll("", row, 64, 13, plainFrame(itself(row.substring(0, 26)) + itself(row.substring(26))));
        writtenByAll("", row, 64, 12, plainFrame(itself(row.substring(0, 24)) + itself(row.substring(24))));
        writtenByAll("", row, 64, 11, plainFrame(itself(row.substring(0, 22)) + itself(row.substring(22, 44))
                + itself(row.substring(44))));
        // Without a byte there is no row.
        for (int cut : new int[] {1, 2, 8000}) {
            writtenByAll("", "", 64, cut, plainFrame(""));
            writtenByAll("c1 c2 c3 c4", "", 124, cut, frameOf(124, ""));
        }
        writtenByAll("", "61", 64, 1, plainFrame(itself("61")));
    }

    @Says("Promise 9: when that has not fewer bytes than the row, the row stands for itself")
    void promise9TheRowStandsForItselfWhenTheBlockHasNotFewerBytes() {
        // The block has a byte more than the row, as many, a byte fewer.
        String more = text("1234567890abcd");
        writtenByAll(text("abcdX"), more, 64, 8000, plainFrame(itself(more)));
        String asMany = text("abcdYZ0123456789");
        writtenByAll(text("abcdX"), asMany, 64, 8000, plainFrame(itself(asMany)));
        String fewer = text("abcdeZ0123456789");
        writtenByAll(text("abcdeX"), fewer, 64, 8000, plainFrame(packed("01 06 00 b0" + text("Z0123456789"))));
        // In the middle of a content, too, and alone.
        writtenByAll(text("abcdX"), asMany + asMany, 96, 16, head(96, 4, "") + itself(asMany) + itself(asMany) + END);
        writtenByAll(text("abcdeX"), fewer + asMany, 96, 16,
                head(96, 4, "") + packed("01 06 00 b0" + text("Z0123456789")) + itself(asMany) + END);
    }

    @Says("Promise 9: with all that is ahead in the content standing for HISTORY too unless ALONE")
    void promise9WhatIsAheadStandsForHistoryUnlessAlone() {
        String twice = LETTERS + LETTERS;
        String second = packed("07 10 00 50" + text("lmnop"));
        writtenByAll("", twice, 64, 16, plainFrame(itself(LETTERS) + second));
        writtenByAll("", twice, 96, 16, head(96, 4, "") + itself(LETTERS) + itself(LETTERS) + END);
        writtenByAll(LETTERS, twice, 64, 16, plainFrame(second + second));
        writtenByAll(LETTERS, twice, 96, 16, head(96, 4, "") + second + second + END);
        // The first byte of HISTORY, from the second row's LAST, which is its first byte.
        String history = text("abcdefgh");
        String in = text("1234567890AB") + text("abcdefghCDEF");
        writtenByAll(history, in, 64, 12,
                plainFrame(itself(text("1234567890AB")) + packed("03 14 00 50" + text("hCDEF"))));
        writtenByAll(history, in, 96, 12,
                head(96, 4, "") + itself(text("1234567890AB")) + packed("03 08 00 50" + text("hCDEF")) + END);
    }

    @Says("Promise 9: each as a block that is WRITTEN in a way behind the HISTORY that it has in reading")
    void promise9HistorysLastBytesRunOnIntoEachRowThatIsAlone() {
        // The second row's match begins 3, 2 and 1 bytes ahead of HISTORY's end, at it, and at HISTORY's first
        // byte. The first row, with which HISTORY's end goes on otherwise, is not there for it.
        String[] matches = {"abcd+-", "bcd+-*", "cd+-*/", "d+-*/d", "abcz12"};
        int[] distances = {8, 7, 6, 5, 14};
        String first = text("zABCDEFGHIJKLMNOPQRS");
        for (int i = 0; i < matches.length; i++) {
            String second = text("d+-*/" + matches[i] + "TUVWXYZ!?");
            String block = "52" + text("d+-*/") + pair(distances[i]) + "90" + text("TUVWXYZ!?");
            String want = head(96, 4, "") + itself(first) + packed(block) + END;
            writtenByAll(text("abcz12abc"), first + second, 96, 20, want);
            // HISTORY may be no longer than the match needs it to be.
            if (distances[i] <= 8) {
                writtenByAll(Rows.text("abc".substring(8 - distances[i])), first + second, 96, 20, want);
                writtenByAll(text("abc"), first + second, 96, 20, want);
            }
        }
    }

    @Says("Promise 9: each as a block that is WRITTEN in a way behind the HISTORY that it has in reading")
    void promise9EndAndLastAreOfEachRow() {
        // A row of 11 bytes has no place up to its LAST, one of 12 has one; what is behind it in IN is not there.
        for (int flags : new int[] {64, 96}) {
            String head = head(flags, 4, "");
            writtenByAll(run(20), run(22), flags, 11, head + itself(run(11)) + itself(run(11)) + END);
            String block = packed("03 01 00 50" + run(5));
            writtenByAll(run(20), run(24), flags, 12, head + block + block + END);
            writtenByAll(run(20), run(35), flags, 12, head + block + block + itself(run(11)) + END);
        }
    }

    @Says("Promise 9: OUT becomes a frame with IN as content")
    void promise9AFullInBehindAFullHistory() {
        String block = packed(copy("", 1, 7995) + "50" + run(5));
        writtenByAll(run(8000), run(8000), 64, 8000, plainFrame(block));
        writtenByAll(run(8000), run(8000), 96, 8000, head(96, 4, "") + block + END);
        String half = packed(copy("", 1, 3995) + "50" + run(5));
        writtenByAll(run(8000), run(8000), 64, 4000, plainFrame(half + half));
        writtenByAll(run(8000), run(8000), 96, 4000, head(96, 4, "") + half + half + END);
    }

    @Says("Promise 9: (PLACE stays.)")
    void promise9PlaceStays() {
        for (int place : new int[] {1, 5, 15}) {
            Held held = HELD.withPlace(place);
            TokenFrames x = held.make();
            checks.due("frame", x.frame(64, 4, 0, 8000, 0), 18);
            held.withOut(plainFrame(itself(ABC))).check(checks, "frame", x);
        }
    }

    // --- Promise 10

    @Says("Promise 10: -12, refused, when most is not 0 .. 8000")
    void promise10RefusedWhenMostIsNot0To8000() {
        for (String in : new String[] {plainFrame(itself(ABC)), "", "00 00 00 00", "04"}) {
            Held held = HELD.withIn(in);
            for (int most : new int[] {-1, 8001, -2, 8002, 65536, LEAST, LEAST + 1, LEAST + 8000, GREATEST}) {
                TokenFrames x = held.make();
                checks.due("unframe(" + most + ")", x.unframe(most), -12);
                held.check(checks, "unframe(" + most + ") of " + in, x);
            }
        }
        read(plainFrame(""), 0, "");
        read(plainFrame(itself(ABC)), 8000, ABC);
    }

    @Says("Promise 10: Reads IN as frames, of at most so many bytes of contents together")
    void promise10AtMostSoManyBytesOfContentsTogether() {
        String three = plainFrame(itself(ABC)) + plainFrame(packed("10 64")) + plainFrame(packed("10 61 01 00 00"));
        read(three, 9, ABC + "64" + run(5));
        fault(three, 8, 3, 18 + 17 + 11 + 2);
        fault(three, 5, 3, 18 + 17 + 11 + 2);
        fault(three, 4, 3, 18 + 17 + 11 + 1);
        fault(three, 3, 3, 18 + 11 + 1);
        fault(three, 2, 3, 11 + 2);
        fault(three, 0, 3, 11);
        String full = plainFrame(packed(EIGHT_THOUSAND_A));
        read(full + plainFrame(""), 8000, run(8000));
        fault(full + plainFrame(itself("61")), 8000, 3, Rows.count(full) + 11);
        String half = plainFrame(packed(copy("61", 1, 3999) + "00"));
        read(half + half, 8000, run(8000));
        fault(half + half, 7999, 3, Rows.count(half) + 11 + 2);
        // Spare bytes and HISTORY are not counted.
        read(run(8000), SPARE + plainFrame("") + SPARE, 0, "");
    }

    @Says("Promise 10: OUT becomes these, PLACE the end: how many")
    void promise10OutIsEmptyOrFull() {
        read("", 0, "");
        read(plainFrame(""), 8000, "");
        read(SPARE, 8000, "");
        read(plainFrame(packed(EIGHT_THOUSAND_A)), 8000, run(8000));
        TokenFrames x = Rows.with(plainFrame(packed(EIGHT_THOUSAND_A)));
        x.unframe(8000);
        x.clear();
        checks.due("unframe of nothing", x.unframe(8000), 0);
        checks.due("size() of an OUT that became empty", x.size(), 0);
    }

    @Says("Promise 10: or less than 0, the fault's number below 0, and OUT stays")
    void promise10OutStaysWhenThereIsAFault() {
        // Each fault comes behind a frame that was read already.
        String ahead = plainFrame(itself(ABC));
        fault(ahead + "04", 8000, 1, 19);
        fault(ahead + plainFrame(packed("10 61 00 00 00")), 8000, 2, 18 + 13);
        fault(ahead + plainFrame(itself("61")), 3, 3, 18 + 11);
        fault(ahead + END, 8000, 4, 18);
        fault(ahead + headOf("00 40"), 8000, 5, 18 + 4);
        fault(ahead + MARK + "40 40 00", 8000, 6, 18 + 6);
        fault(ahead + head(64, 4, "") + "ff ff ff ff", 8000, 7, 18 + 7);
        fault(ahead + head(80, 4, "") + itself("61") + END, 8000, 8, 18 + 12);
        fault(ahead + plainFrame(packed("10")), 8000, 9, 18 + 12);
        fault(ahead + head(68, 4, "") + itself("61") + END + "00 00 00 00", 8000, 10, 18 + 16);
        fault(ahead + head(72, 2, 0) + itself("61") + END, 8000, 11, 18 + 6);
        // A full OUT stays, too.
        TokenFrames x = Rows.with(plainFrame(packed(EIGHT_THOUSAND_A)));
        checks.due("unframe(8000)", x.unframe(8000), 8000);
        checks.due("unframe(7999)", x.unframe(7999), -3);
        checks.same("a full OUT", Rows.out(x), Rows.shown(run(8000)));
    }
}
