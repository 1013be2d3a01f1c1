/**
 * Each sentence that names an edge of blocks: promises 7 and 8, and the terms that they rest on. A test bears
 * the promise (or the term) and the sentence in its name.
 */
public final class EdgesOfBlocksTest extends BlockCases {
    private static final int LEAST = Integer.MIN_VALUE;
    private static final int GREATEST = Integer.MAX_VALUE;
    private static final String LETTERS = Rows.text("KLMNOPQRSTUVWX");

    private EdgesOfBlocksTest() {
        super("edges of promises 7 and 8");
    }

    public static void main(String[] args) {
        EdgesOfBlocksTest test = new EdgesOfBlocksTest();
        Sentences.run(test, test.checks);
    }

    private static String run(int n) {
        return Rows.times(n, "61");
    }

    private static String text(String letters) {
        return Rows.text(letters) + " ";
    }

    /** The n bytes behind the first m of a row. */
    private static String part(String hex, int m, int n) {
        return hex.replace(" ", "").substring(2 * m, 2 * (m + n));
    }

    // --- Terms: a BLOCK

    @Says("Terms: if a is 15, bytes that are added to it, up to the first one that is not 255")
    void termsBlockBytesAreAddedToAOnlyWhenItIs15() {
        read("", "00", 8000, "");
        read("", "10 61", 8000, "61");
        read("", "e0" + Rows.plain(14), 8000, Rows.plain(14));
        read("", "f0 00" + Rows.plain(15), 8000, Rows.plain(15));
        read("", "f0 01" + Rows.plain(16), 8000, Rows.plain(16));
        read("", "f0 fe" + Rows.plain(269), 8000, Rows.plain(269));
        read("", "f0 ff 00" + Rows.plain(270), 8000, Rows.plain(270));
        read("", "f0 ff fe" + run(524), 8000, run(524));
        read("", "f0 ff ff 00" + run(525), 8000, run(525));
        read("", "f0" + Rows.times(31, "ff") + "2f" + run(7967), 8000, run(7967));
        // Of a sequence with a copy, too.
        read("", "e0" + Rows.plain(14) + "0e 00 00", 8000, Rows.plain(14) + Rows.plain(4));
        read("", "f0 00" + Rows.plain(15) + "0f 00 00", 8000, Rows.plain(15) + Rows.plain(4));
        read("", "f0 ff 00" + Rows.plain(270) + "0e 01 00", 8000, Rows.plain(270) + Rows.plain(4));
    }

    @Says("Terms: (which is the last one added)")
    void termsBlockTheFirstThatIsNot255IsTheLastOneAdded() {
        read("", "f0 00" + Rows.times(15, "ff"), 8000, Rows.times(15, "ff"));
        read("", "f0 fe" + Rows.times(269, "ff"), 8000, Rows.times(269, "ff"));
        read("", "f0 ff 00" + Rows.times(270, "ff"), 8000, Rows.times(270, "ff"));
        // A TOKEN of 255 stands behind the byte that was added last.
        read("", "1f 61 01 00 00 ff 00" + Rows.plain(15), 8000, run(20) + Rows.plain(15));
    }

    @Says("Terms: If the block ends there, that SEQUENCE is the last one (its b counts for nothing).")
    void termsBlockTheLastSequencesBCountsForNothing() {
        for (int b = 0; b < 16; b++) {
            read("", String.format("0%x", b), 8000, "");
            read("01 02 03 04 05", String.format("3%x", b) + "61 62 63", 3, "61 62 63");
            read("", String.format("f%x", b) + "00" + Rows.plain(15), 15, Rows.plain(15));
            read("", "10 61 01 00" + String.format("1%x", b) + "62", 6, "61 61 61 61 61 62");
        }
    }

    @Says("Terms: Numbers in them have their lowest byte first.")
    void termsNumbersADistancesLowestByteIsTheFirst() {
        String history = Rows.plain(300);
        for (int distance : new int[] {4, 5, 254, 255, 256, 257, 258, 299, 300}) {
            read(history, "00" + pair(distance) + "00", 4, part(history, 300 - distance, 4));
        }
        read(history, "00 00 01 00", 4, part(history, 300 - 256, 4));
        read(history, "00 ff 00 00", 4, part(history, 300 - 255, 4));
        read(history, "00 2c 01 00", 4, part(history, 0, 4));
        fault(history, "00 2d 01 00", 4, 2, 1);
    }

    @Says("Terms: if b is 15, bytes that are added to it likewise; then b + 4 bytes are copied")
    void termsBlockBytesAreAddedToBOnlyWhenItIs15() {
        read("61", "00 01 00 00", 8000, run(4));
        read("61", "01 01 00 00", 8000, run(5));
        read("61", "0e 01 00 00", 8000, run(18));
        read("61", "0f 01 00 00 00", 8000, run(19));
        read("61", "0f 01 00 01 00", 8000, run(20));
        read("61", "0f 01 00 fe 00", 8000, run(273));
        read("61", "0f 01 00 ff 00 00", 8000, run(274));
        read("61", "0f 01 00 ff fe 00", 8000, run(528));
        read("61", "0f 01 00 ff ff 00 00", 8000, run(529));
        read("61", "0f 01 00" + Rows.times(31, "ff") + "4c 00", 8000, run(8000));
    }

    @Says("Terms: copied from those DISTANCE back, one by one (what is copied may be copied again)")
    void termsBlockWhatIsCopiedMayBeCopiedAgain() {
        String history = Rows.text("abcdefgh");
        read(history, "03 01 00 00", 8000, Rows.text("hhhhhhh"));
        read(history, "03 02 00 00", 8000, Rows.text("ghghghg"));
        read(history, "03 06 00 00", 8000, Rows.text("cdefghc"));
        read(history, "03 07 00 00", 8000, Rows.text("bcdefgh"));
        read(history, "03 08 00 00", 8000, Rows.text("abcdefg"));
        // From HISTORY's end on into what is copied, and into what was read.
        read(history, "23 59 5a 03 00 00", 8000, Rows.text("YZhYZhYZh"));
        read(history, "23 59 5a 0a 00 00", 8000, Rows.text("YZabcdefg"));
        read(history, "27 59 5a 0a 00 00", 8000, Rows.text("YZabcdefghYZa"));
    }

    // --- Terms: reading a block

    @Says("Terms: 1 the block ends where a TOKEN (also the first one) .. has to come (PLACE is its end)")
    void termsFault1WhereATokenHasToCome() {
        fault("", "", 8000, 1, 0);
        fault("", "", 0, 1, 0);
        fault("61 62 63 64", "", 8000, 1, 0);
        fault("", "10 61 01 00", 8000, 1, 4);
        fault("", "10 61 01 00 00 01 00", 8000, 1, 7);
        fault("", "1f 61 01 00 ff 00", 8000, 1, 6);
        read("", "10 61 01 00 00", 8000, run(5));
        read("", "10 61 01 00 00 01 00 00", 8000, run(9));
        read("", "1f 61 01 00 ff 00 00", 8000, run(275));
    }

    @Says("Terms: 1 the block ends where .. a byte to be added .. has to come (PLACE is its end)")
    void termsFault1WhereAByteToBeAddedHasToCome() {
        fault("", "f0", 8000, 1, 1);
        fault("", "ff", 8000, 1, 1);
        fault("", "f0 ff", 8000, 1, 2);
        fault("", "f0 ff ff ff", 8000, 1, 4);
        fault("", "1f 61 01 00", 8000, 1, 4);
        fault("", "1f 61 01 00 ff", 8000, 1, 5);
        fault("", "1f 61 01 00 ff ff", 8000, 1, 6);
        // A b of 15 with nothing that has to be added to it: that sequence is the last one.
        read("", "1f 61", 8000, "61");
    }

    @Says("Terms: 1 the block ends where .. a LITERAL .. has to come (PLACE is its end)")
    void termsFault1WhereALiteralHasToCome() {
        fault("", "10", 8000, 1, 1);
        fault("", "20 61", 8000, 1, 2);
        read("", "20 61 62", 8000, "61 62");
        fault("", "e0" + Rows.plain(13), 8000, 1, 14);
        fault("", "f0 00", 8000, 1, 2);
        fault("", "f0 00" + Rows.plain(14), 8000, 1, 16);
        fault("", "f0 ff 00" + Rows.plain(269), 8000, 1, 272);
        fault("", "10 61 01 00 10", 8000, 1, 5);
    }

    @Says("Terms: 1 the block ends where .. a byte of a DISTANCE has to come (PLACE is its end)")
    void termsFault1WhereAByteOfADistanceHasToCome() {
        read("", "10 61", 8000, "61");
        fault("", "10 61 01", 8000, 1, 3);
        fault("", "10 61 00", 8000, 1, 3);
        fault("", "1f 61 ff", 8000, 1, 3);
        fault("61", "00 01", 8000, 1, 2);
        fault("61", "00 01 00 00 01", 8000, 1, 5);
        read("61", "00 01 00 00", 8000, run(4));
    }

    @Says("Terms: 2 a DISTANCE is 0")
    void termsFault2ADistanceIs0() {
        fault("", "10 61 00 00 00", 8000, 2, 2);
        fault("61 62 63", "00 00 00 00", 8000, 2, 1);
        fault(run(8000), "00 00 00 00", 8000, 2, 1);
        read("61 62 63", "00 01 00 00", 8000, "63 63 63 63");
        fault("", "10 61 01 00 00 00 00 00", 8000, 2, 5);
    }

    @Says("Terms: or reaches back behind HISTORY's first byte (PLACE is where it stands")
    void termsFault2ADistanceReachesBehindHistorysFirstByte() {
        for (int h : new int[] {0, 1, 2, 255, 256, 257, 8000}) {
            String history = h == 0 ? "" : "c1" + Rows.times(h - 1, "61");
            String four = part(Rows.times(4, history + "62"), 0, 4);
            read(history, "10 62" + pair(h + 1) + "00", 8000, "62" + four);
            fault(history, "10 62" + pair(h + 2) + "00", 8000, 2, 2);
        }
        // A first sequence without literals has HISTORY alone.
        fault("", "00 01 00 00", 8000, 2, 1);
        read("c1", "00 01 00 00", 8000, "c1 c1 c1 c1");
        fault("c1", "00 02 00 00", 8000, 2, 1);
        fault("c1 c2", "00 02 00 00 07 00 00", 8000, 2, 4);
        read("c1 c2", "00 02 00 00 06 00 00", 8000, "c1 c2 c1 c2 c1 c2 c1 c2");
    }

    @Says("Terms: or reaches back behind HISTORY's first byte (PLACE is where it stands")
    void termsFault2TheGreatestDistances() {
        // Behind 8000 bytes of HISTORY and 7996 that are read, a copy of 4 bytes is the last one that may be.
        String history = "c1 c2 c3 c4" + run(7996);
        String ahead = copy("62", 1, 7995);
        read(history, ahead + "00" + pair(15996) + "00", 8000, Rows.times(7996, "62") + "c1 c2 c3 c4");
        fault(history, ahead + "00" + pair(15997) + "00", 8000, 2, Rows.count(ahead) + 1);
        for (int distance : new int[] {16000, 16001, 32767, 32768, 65534, 65535}) {
            fault(history, ahead + "00" + pair(distance) + "00", 8000, 2, Rows.count(ahead) + 1);
            fault(history, "00" + pair(distance) + "00", 8000, 2, 1);
            fault("", "10 61" + pair(distance) + "00", 8000, 2, 2);
        }
    }

    @Says("Terms: it is looked at before bytes are added to b")
    void termsFault2IsLookedAtBeforeBytesAreAddedToB() {
        fault("", "1f 61 00 00", 8000, 2, 2);
        fault("", "1f 61 02 00", 8000, 2, 2);
        fault("", "1f 61 02 00 ff", 8000, 2, 2);
        fault("", "1f 61 02 00 ff ff ff 00", 1, 2, 2);
        fault("", "1f 61 01 00", 8000, 1, 4);
    }

    @Says("Terms: 3 there are more bytes than may be (PLACE is the first LITERAL that is too many")
    void termsFault3TheFirstLiteralThatIsTooMany() {
        read("", "30 61 62 63", 3, "61 62 63");
        fault("", "30 61 62 63", 2, 3, 3);
        fault("", "30 61 62 63", 1, 3, 2);
        fault("", "30 61 62 63", 0, 3, 1);
        fault("61 62 63", "10 61", 0, 3, 1);
        fault("", "f0 00" + Rows.plain(15), 14, 3, 16);
        fault("", "f0 00" + Rows.plain(15), 0, 3, 2);
        read("", "f0 00" + Rows.plain(15), 15, Rows.plain(15));
        read("", "10 61 01 00 20 62 63", 7, run(5) + "62 63");
        fault("", "10 61 01 00 20 62 63", 6, 3, 6);
        fault("", "10 61 01 00 20 62 63", 5, 3, 5);
        read("", copy("61", 1, 7998) + "10 62", 8000, run(7999) + "62");
        fault("", copy("61", 1, 7998) + "20 62 63", 8000, 3, Rows.count(copy("61", 1, 7998)) + 2);
    }

    @Says("Terms: or the DISTANCE's, when its copy is too long")
    void termsFault3TheDistancesWhenItsCopyIsTooLong() {
        read("", "10 61 01 00 00", 5, run(5));
        fault("", "10 61 01 00 00", 4, 3, 2);
        fault("", "10 61 01 00 00", 1, 3, 2);
        read("61", "00 01 00 00", 4, run(4));
        fault("61", "00 01 00 00", 3, 3, 1);
        fault("61", "00 01 00 00", 0, 3, 1);
        read("61", "0f 01 00 00 00", 19, run(19));
        fault("61", "0f 01 00 00 00", 18, 3, 1);
        read("", copy("61", 1, 7999) + "00", 8000, run(8000));
        fault("", copy("61", 1, 8000) + "00", 8000, 3, 2);
        fault("", copy("61", 1, 7999) + "00 01 00 00", 8000, 3, Rows.count(copy("61", 1, 7999)) + 1);
        // As long as a full IN can say: nothing wraps around.
        fault("", "1f 61 01 00" + Rows.times(7994, "ff") + "00 00", 8000, 3, 2);
        fault("61", "0f 01 00" + Rows.times(7996, "ff") + "00", 8000, 3, 1);
        fault("", "f0" + Rows.times(7997, "ff") + "00 61", 8000, 1, 8000);
    }

    @Says("Terms: the first fault that comes")
    void termsTheFirstFaultThatComes() {
        // 3 of a LITERAL, where it stands, before 1 at the end of those that are not there.
        fault("", "50 61 62 63", 2, 3, 3);
        fault("", "50 61 62 63", 3, 1, 4);
        fault("", "50 61", 0, 3, 1);
        fault("", "50", 0, 1, 1);
        fault("", "f0 ff", 0, 1, 2);
        // 1 where a byte has to be added before 3 of the copy, that before 1 of the next TOKEN.
        fault("", "1f 61 01 00 ff", 3, 1, 5);
        fault("", "10 61 01 00", 4, 3, 2);
        fault("", "10 61 01 00", 5, 1, 4);
        // 3 of a LITERAL before 2 of the DISTANCE behind it, that before 3 of its copy.
        fault("", "20 61 62 00 00 00", 1, 3, 2);
        fault("", "20 61 62 00 00 00", 2, 2, 3);
        fault("", "20 61 62 03 00 00", 2, 2, 3);
        fault("", "20 61 62 02 00 00", 2, 3, 3);
    }

    // --- Terms: a MATCH

    @Says("Terms: at least 4 bytes from p on")
    void termsMatchHasAtLeast4Bytes() {
        writtenByAll(text("abcX"), text("abcYZ") + LETTERS, "f0 04" + text("abcYZ") + LETTERS);
        writtenByAll(text("abcdX"), text("abcdYZ") + LETTERS, "00 05 00 f0 01" + text("YZ") + LETTERS);
        writtenByAll(text("abcdeX"), text("abcdeYZ") + LETTERS, "01 06 00 f0 01" + text("YZ") + LETTERS);
        writtenByAll("", text("abc1abc2") + LETTERS, "f0 07" + text("abc1abc2") + LETTERS);
        writtenByAll("", text("abcd1abcd2") + LETTERS, "50" + text("abcd1") + "05 00 f0 00" + text("2") + LETTERS);
    }

    @Says("Terms: A MATCH at place p is a place q below p")
    void termsMatchIsBelowPDownToTheFirstPlace() {
        // The place just below p, and the first one of HISTORY; a place is no match of its own.
        writtenByAll("61", run(12), "03 01 00 50" + run(5));
        writtenByAll(text("abcd"), text("abcdYZ") + LETTERS, "00 04 00 f0 01" + text("YZ") + LETTERS);
        writtenByAll("", text("abcdYZ") + LETTERS, "f0 05" + text("abcdYZ") + LETTERS);
    }

    @Says("Terms: p - q at most 65535")
    void termsMatchIsAsFarBackAsTheRowsAllow() {
        // 65535 can't be reached: the first byte of a full HISTORY, from LAST of a full IN, is 15988 back.
        String history = "c1 c2 c3 c4" + run(7996);
        String ahead = copy("62", 1, 7987);
        writtenByAll(history, Rows.times(7988, "62") + "c1 c2 c3 c4 01 02 03 04 05 06 07 08",
                ahead + "00 74 3e 80 01 02 03 04 05 06 07 08");
        ahead = copy("62", 1, 7988);
        writtenByAll(history, Rows.times(7989, "62") + "c1 c2 c3 c4 01 02 03 04 05 06 07",
                ahead + "b0 c1 c2 c3 c4 01 02 03 04 05 06 07");
    }

    @Says("Terms: are those from q on (which may run on into p's)")
    void termsMatchMayRunOnIntoPs() {
        writtenByAll("", run(13), "13 61 01 00 50" + run(5));
        writtenByAll("", Rows.times(8, "61 62"), "25 61 62 02 00 50" + text("babab"));
        writtenByAll(text("Xabc"), Rows.times(6, "61 62 63"), "09 03 00 50" + text("bcabc"));
        writtenByAll("", run(8000), copy("61", 1, 7994) + "50" + run(5));
    }

    @Says("Terms: all of p's before END")
    void termsMatchIsAllBeforeEnd() {
        String history = Rows.text("abcdefghijklmnopqrstuvwxyz");
        for (int n = 12; n <= 20; n++) {
            String in = part(history, 0, n);
            writtenByAll(history, in, copy("", 26, n - 5) + "50" + part(in, n - 5, 5));
        }
        // One that differs just ahead of END, at END, and behind it.
        writtenByAll(history, text("abcdef1hijkl"), "02 1a 00 60" + text("1hijkl"));
        writtenByAll(history, text("abcdefg1ijkl"), "03 1a 00 50" + text("1ijkl"));
        writtenByAll(history, text("abcdefgh1jkl"), "03 1a 00 50" + text("h1jkl"));
    }

    @Says("Terms: None begins behind LAST.")
    void termsMatchNoneBeginsBehindLast() {
        String history = Rows.text("abcdefghijkl");
        // At LAST itself, and one, two and three behind it.
        writtenByAll(history, text("1abcdefghijkl"), "13 31 0d 00 50" + text("hijkl"));
        writtenByAll(history, text("1abcdefghijk"), "c0" + text("1abcdefghijk"));
        writtenByAll(history, text("12abcdefghij"), "c0" + text("12abcdefghij"));
        writtenByAll(history, text("123abcdefghi"), "c0" + text("123abcdefghi"));
        writtenByAll(history, text("1abcdefghij"), "b0" + text("1abcdefghij"));
        // One ahead of it.
        writtenByAll(history, text("1abcdefgh12345"), "14 31 0d 00 50" + text("12345"));
    }

    @Says("Terms: WAY 0: of all the nearest.")
    void termsWay0TheNearestHoweverShort() {
        written(text("abcdefg1abcd2"), text("abcdefg") + LETTERS, 0, "00 05 00 f0 02" + text("efg") + LETTERS);
        written(text("abcdefghij1abcd2"), text("abcdefghij") + LETTERS, 0, "00 05 00 02 10 00 e0" + LETTERS);
        written(text("abcd1abcd2abcd3"), text("abcdXY") + LETTERS, 0, "00 05 00 f0 01" + text("XY") + LETTERS);
        // The nearest with 4 bytes, not one that is nearer with 3.
        written(text("abcde1abc2"), text("abcde") + LETTERS, 0, "01 0a 00 e0" + LETTERS);
    }

    @Says("Terms: WAY 1: the nearest of those of 8 bytes or more")
    void termsWay1TheNearestOfThoseOf8BytesOrMore() {
        // A nearer one has 7 bytes.
        written(text("abcdefgh1abcdefg2"), text("abcdefgh") + LETTERS, 1, "04 11 00 e0" + LETTERS);
        // Of one with 9 bytes and a nearer one with 8, the nearer one.
        written(text("abcdefghi1abcdefgh2"), text("abcdefghi") + LETTERS, 1,
                "04 09 00 f0 00" + text("i") + LETTERS);
        written(text("abcdefgh1abcdefghi2"), text("abcdefghi") + LETTERS, 1, "05 0a 00 e0" + LETTERS);
    }

    @Says("Terms: else as way 0")
    void termsWay1AsWay0WhenNoneHas8Bytes() {
        written(text("abcdefg1abcd2"), text("abcdefg") + LETTERS, 1, "00 05 00 f0 02" + text("efg") + LETTERS);
        written(text("abcd1abcdefg2"), text("abcdefg") + LETTERS, 1, "03 08 00 e0" + LETTERS);
        // Before END there are 7 bytes at LAST, and 8 one ahead of it.
        written(text("abcdefghij1abcd2"), text("abcdefghijkl"), 1, "00 05 00 80" + text("efghijkl"));
        written(text("abcdefghij1abcd2"), text("abcdefghijklm"), 1, "04 10 00 50" + text("ijklm"));
    }

    @Says("Terms: WAY 2: the longest, of these the nearest.")
    void termsWay2TheLongestOfTheseTheNearest() {
        for (int way = 2; way < 4; way++) {
            // The longest is the furthest, the one between, the nearest; of two that are as long, the nearest.
            written(text("abcdef1abcde2abcd3"), text("abcdef") + LETTERS, way, "02 12 00 e0" + LETTERS);
            written(text("abcde1abcdef2abcd3"), text("abcdef") + LETTERS, way, "02 0c 00 e0" + LETTERS);
            written(text("abcd1abcde2abcdef3"), text("abcdef") + LETTERS, way, "02 07 00 e0" + LETTERS);
            written(text("abcdef1abcdef2abcd3"), text("abcdef") + LETTERS, way, "02 0c 00 e0" + LETTERS);
            written(text("abcd1abcd2"), text("abcdX") + LETTERS, way, "00 05 00 f0 00" + text("X") + LETTERS);
            // How long they are is counted before END.
            written(text("abcdefghi1abcdefg2"), text("abcdefghijkl"), way, "03 08 00 50" + text("hijkl"));
            written(text("abcdefghi1abcdefg2"), text("abcdefghijklm"), way, "04 12 00 50" + text("ijklm"));
        }
    }

    @Says("Terms: and the longest there is longer than that at p, there is none at p")
    void termsWay3NoneAtPWhenTheNextIsLonger() {
        // At p + 1 there is one that is longer by a byte, one that is as long, a shorter one, none.
        written(text("abcd1bcdef2"), text("abcdef") + LETTERS, 3, "11 61 07 00 e0" + LETTERS);
        written(text("abcd1bcde2"), text("abcde") + LETTERS, 3, "00 0a 00 f0 00 65" + LETTERS);
        written(text("abcde1bcde2"), text("abcde") + LETTERS, 3, "01 0b 00 e0" + LETTERS);
        written(text("abcd1"), text("abcd") + LETTERS, 3, "00 05 00 e0" + LETTERS);
        // The longest at p + 1 may begin at p itself.
        written(text("aaaa1"), run(20), 3, "1a 61 01 00 50" + run(5));
        // Way 2 takes what is there.
        written(text("aaaa1"), run(20), 2, "00 05 00 07 01 00 50" + run(5));
        written(text("abcd1bcdef2"), text("abcdef") + LETTERS, 2, "00 0b 00 f0 01" + text("ef") + LETTERS);
        // It is asked again at each place, and only of the next one.
        written(text("abcd1bcdef2cdefgh3"), text("abcdefgh") + LETTERS, 3, "22 61 62 09 00 e0" + LETTERS);
        written(text("abcde1bcdef2cdefgh3"), text("abcdefgh") + LETTERS, 3,
                "01 13 00 f0 02" + text("fgh") + LETTERS);
    }

    @Says("Terms: when p + 1 is not behind LAST")
    void termsWay3AsksOnlyWhenTheNextIsNotBehindLast() {
        // p + 1 is LAST, and then behind it; the match there has 7 bytes before END, and would have 6.
        written(text("abcd1bcdefgh2"), text("abcdefghKLMNO"), 3, "13 61 09 00 50" + text("KLMNO"));
        written(text("abcd1bcdefgh2"), text("abcdefghKLMN"), 3, "00 0d 00 80" + text("efghKLMN"));
        written(text("abcd1bcdefgh2"), text("XabcdefghKLMN"), 3, "10 58 0e 00 80" + text("efghKLMN"));
    }

    // --- Terms: GOING over the data

    @Says("Terms: GOING over the data from h on")
    void termsGoingBeginsBehindHistory() {
        writtenByAll(run(40), text("X"), "10" + text("X"));
        writtenByAll(run(40), LETTERS, "e0" + LETTERS);
        // The first place behind HISTORY may have a match that runs on over HISTORY's end.
        writtenByAll(text("Xab"), text("abababababababab"), "07 02 00 50" + text("babab"));
    }

    @Says("Terms: where there is no match, the byte is a LITERAL, and it goes on one further; else behind the match")
    void termsGoingGoesOnBehindTheMatch() {
        // A match that begins within another one is none; one that begins just behind it is.
        for (int way = 0; way < 3; way++) {
            written(text("abcd1cdefg2"), text("abcdefg") + LETTERS, way, "00 0b 00 f0 02" + text("efg") + LETTERS);
        }
        writtenByAll(text("abcd1efgh2"), text("abcdefgh") + LETTERS, "00 0a 00 00 09 00 e0" + LETTERS);
        writtenByAll(text("abcd1efgh2"), text("abcdXefgh") + LETTERS, "00 0a 00 10 58 0a 00 e0" + LETTERS);
    }

    @Says("Terms: with END n - 5 and LAST n - 12")
    void termsEndAndLastOfTheShortestRows() {
        for (int n = 0; n <= 12; n++) {
            String row = n == 0 ? "" : run(n);
            writtenByAll("", row, String.format("%x0", n) + row);
        }
        writtenByAll("", run(13), "13 61 01 00 50" + run(5));
        // n counts HISTORY, too: LAST is then behind its end with 12 bytes.
        for (int n = 0; n <= 11; n++) {
            String row = n == 0 ? "" : run(n);
            writtenByAll(run(20), row, String.format("%x0", n) + row);
        }
        writtenByAll(run(20), run(12), "03 01 00 50" + run(5));
        writtenByAll(run(8000), run(11), "b0" + run(11));
        writtenByAll(run(8000), run(12), "03 01 00 50" + run(5));
    }

    @Says("Terms: as few bytes being added as can be")
    void termsWrittenAsFewBytesAreAddedAsCanBe() {
        writtenByAll("", Rows.plain(14), "e0" + Rows.plain(14));
        writtenByAll("", Rows.plain(15), "f0 00" + Rows.plain(15));
        writtenByAll("", Rows.plain(269), "f0 fe" + Rows.plain(269));
        writtenByAll("", Rows.plain(270), "f0 ff 00" + Rows.plain(270));
        // The literals ahead of a match.
        for (int n : new int[] {14, 15, 269, 270}) {
            String row = Rows.plain(n);
            String growth = n == 14 ? "" : n == 15 ? "00" : n == 269 ? "fe" : "ff 00";
            writtenByAll("", row + part(row, 0, 8) + "2a 2b 2c 2d 2e",
                    (n == 14 ? "e4" : "f4") + growth + row + pair(n) + "50 2a 2b 2c 2d 2e");
        }
        // The copies.
        writtenByAll("61", run(5 + 18), "0e 01 00 50" + run(5));
        writtenByAll("61", run(5 + 19), "0f 01 00 00 50" + run(5));
        writtenByAll("61", run(5 + 273), "0f 01 00 fe 50" + run(5));
        writtenByAll("61", run(5 + 274), "0f 01 00 ff 00 50" + run(5));
        writtenByAll("61", run(5 + 528), "0f 01 00 ff fe 50" + run(5));
        writtenByAll("61", run(5 + 529), "0f 01 00 ff ff 00 50" + run(5));
    }

    @Says("Terms: at last a sequence of the literals that are left (also when there are none), b being 0")
    void termsWrittenTheLastSequenceAlsoWhenNoLiteralsAreLeft() {
        writtenByAll("", "", "00");
        writtenByAll("61", "", "00");
        writtenByAll(run(8000), "", "00");
        // Behind a match five at least are left.
        writtenByAll("61", run(12), "03 01 00 50" + run(5));
    }

    // --- Promise 7

    private void blockKeeps(Held held, int way) {
        TokenFrames x = held.make();
        checks.due("block(" + way + ")", x.block(way), -1);
        held.check(checks, "block(" + way + ")", x);
    }

    @Says("Promise 7: -1, refused, when the way is not 0 .. 3")
    void promise7RefusedWhenTheWayIsNot0To3() {
        for (int way : new int[] {-1, 4, -2, 5, 256, 1 << 16, LEAST, LEAST + 1, LEAST + 3, GREATEST}) {
            blockKeeps(new Held("c1 c2 c3 c4 c5", "0a 0b 0c", "07 08 09", 5), way);
            blockKeeps(new Held("", "", "", 1), way);
        }
        writtenByAll("c1 c2 c3 c4 c5", "0a 0b 0c", "30 0a 0b 0c");
    }

    @Says("Promise 7: or there would be more than 8000")
    void promise7RefusedWhenThereWouldBeMoreThan8000() {
        TokenFrames x = Rows.withoutMatches(7967);
        for (int way = 0; way < 4; way++) {
            checks.due("block(" + way + ") of 7967 literals", x.block(way), 8000);
        }
        x.write(0xabcd, 1);
        int sum = x.sum();
        for (int way = 0; way < 4; way++) {
            checks.due("block(" + way + ") of 7968 literals", x.block(way), -1);
        }
        checks.due("sum of IN after it", x.sum(), sum);
        checks.due("PLACE after it", x.place(), 0);
        checks.due("size() after it", x.size(), 8000);
        checks.due("byteAt(0) after it", x.byteAt(0), 0xf0);
        checks.due("byteAt(31) after it", x.byteAt(31), 255);
        checks.due("byteAt(32) after it", x.byteAt(32), 7967 - 15 - 31 * 255);
        x.turn();
        checks.due("unblock of the 8000 bytes", x.unblock(8000), 7967);
    }

    @Says("Promise 7: or there would be more than 8000")
    void promise7RefusedWhenALaterSequenceWouldBeMoreThan8000() {
        // 1 + 32 + n bytes for n literals, 2 for the match of 8 bytes, 1 + 5 for the last sequence: the room
        // ends with the last byte, ahead of it, and then further and further ahead, up to the literals.
        for (int n : new int[] {7959, 7960, 7964, 7965, 7966, 7967, 7968}) {
            TokenFrames x = Rows.withoutMatches(n);
            x.again(8, 1);
            x.write(0x0102030405L, 5);
            int size = x.size();
            for (int way = 0; way < 4; way++) {
                checks.due("block(" + way + ") of " + n + " literals and a match", x.block(way),
                        n == 7959 ? 8000 : -1);
            }
            checks.due("size() after it", x.size(), n == 7959 ? 8000 : size);
        }
    }

    @Says("Promise 7: OUT becomes the block that is WRITTEN for IN behind HISTORY in a way: how many bytes.")
    void promise7AFullInBehindAFullHistory() {
        writtenByAll(run(8000), run(8000), copy("", 1, 7995) + "50" + run(5));
        writtenByAll("", run(8000), copy("61", 1, 7994) + "50" + run(5));
    }

    @Says("Promise 7: (PLACE stays.)")
    void promise7PlaceStays() {
        for (int place : new int[] {1, 5, 15}) {
            Held held = new Held("c1 c2 c3 c4 c5", "0a 0b 0c", "07 08 09", place);
            TokenFrames x = held.make();
            checks.due("block(0)", x.block(0), 4);
            held.withOut("30 0a 0b 0c").check(checks, "block(0)", x);
        }
    }

    // --- Promise 8

    @Says("Promise 8: -4, refused, when most is not 0 .. 8000")
    void promise8RefusedWhenMostIsNot0To8000() {
        for (String in : new String[] {"00", "10 61", "", "10 61 00 00"}) {
            Held held = new Held("c1 c2 c3 c4 c5", in, "07 08 09", 5);
            for (int most : new int[] {-1, 8001, -2, 8002, 65536, LEAST, LEAST + 1, LEAST + 8000, GREATEST}) {
                TokenFrames x = held.make();
                checks.due("unblock(" + most + ")", x.unblock(most), -4);
                held.check(checks, "unblock(" + most + ") of " + in, x);
            }
        }
        read("c1 c2 c3 c4 c5", "00", 0, "");
        read("c1 c2 c3 c4 c5", "10 61", 8000, "61");
    }

    @Says("Promise 8: Reads IN as a block behind HISTORY, of at most so many bytes")
    void promise8AtMostSoManyBytes() {
        for (int n : new int[] {1, 2, 14, 15, 255, 256, 7966, 7967}) {
            read("", last(run(n)), n, run(n));
            fault("", last(run(n)), n - 1, 3, Rows.count(last(run(n))) - 1);
        }
        for (int n : new int[] {4, 5, 18, 19, 273, 274, 7999, 8000}) {
            read("61", copy("", 1, n) + "00", n, run(n));
            fault("61", copy("", 1, n) + "00", n - 1, 3, 1);
        }
        // HISTORY's bytes are not counted.
        read(run(8000), "00", 0, "");
        read(run(8000), copy("", 8000, 8000) + "00", 8000, run(8000));
    }

    @Says("Promise 8: OUT becomes what it stands for, PLACE the end: how many")
    void promise8OutIsEmptyOrFull() {
        read("", "00", 0, "");
        read("c1", "0f", 8000, "");
        read("", copy("61", 1, 7999) + "00", 8000, run(8000));
        read("", "f0" + growth(7967) + run(7967), 8000, run(7967));
    }

    @Says("Promise 8: or -1, -2, -3 for a fault, and OUT stays")
    void promise8OutStaysWhenThereIsAFault() {
        // Each fault comes behind bytes that were read already.
        fault("c1 c2", "20 61 62 02 00", 8000, 1, 5);
        fault("c1 c2", "20 61 62 05 00 00", 8000, 2, 3);
        fault("c1 c2", "20 61 62 02 00 10 63", 6, 3, 6);
        // A full OUT and an empty one, too.
        TokenFrames x = Rows.with(copy("61", 1, 7999) + "00");
        checks.due("unblock(8000)", x.unblock(8000), 8000);
        checks.due("unblock(7999)", x.unblock(7999), -3);
        Rows.load(x, "10 62 00 00");
        checks.due("unblock(8000) of a DISTANCE of 0", x.unblock(8000), -2);
        checks.same("a full OUT", Rows.out(x), Rows.shown(run(8000)));
        x = Rows.with("10 62 00 00");
        x.unblock(8000);
        checks.due("size() of an empty OUT", x.size(), 0);
    }
}
