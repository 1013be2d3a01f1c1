/** Asks for one frame, or for frames: that they are written as is due, or read, or read to their fault. */
abstract class FrameCases extends Parts {
    static final String SPARE = "5f 2a 4d 18 03 00 00 00 01 02 03";

    final Checks checks;

    FrameCases(String name) {
        checks = new Checks(name);
    }

    /** A frame with k 4 and the KEY 7. */
    final void written(String historyHex, String inHex, int flags, int cut, int way, String want) {
        Held held = new Held(historyHex, inHex, "07 08", 5);
        TokenFrames x = held.make();
        String call = "frame(" + flags + ", 4, 7, " + cut + ", " + way + ") of " + inHex + " behind " + historyHex;
        checks.due(call, x.frame(flags, 4, 7, cut, way), Rows.count(want));
        held.withOut(want).check(checks, call, x);
    }

    final void writtenByAll(String historyHex, String inHex, int flags, int cut, String want) {
        for (int way = 0; way < 4; way++) {
            written(historyHex, inHex, flags, cut, way, want);
        }
    }

    final void read(String historyHex, String inHex, int most, String want) {
        Held held = new Held(historyHex, inHex, "07 08", 5);
        TokenFrames x = held.make();
        String call = "unframe(" + most + ") of " + inHex + " behind " + historyHex;
        checks.due(call, x.unframe(most), Rows.count(want));
        held.withOut(want).withPlace(Rows.count(inHex)).check(checks, call, x);
    }

    final void read(String inHex, int most, String want) {
        read("", inHex, most, want);
    }

    final void fault(String historyHex, String inHex, int most, int number, int place) {
        Held held = new Held(historyHex, inHex, "07 08", 5);
        TokenFrames x = held.make();
        String call = "unframe(" + most + ") of " + inHex + " behind " + historyHex;
        checks.due(call, x.unframe(most), -number);
        held.withPlace(place).check(checks, call, x);
    }

    final void fault(String inHex, int most, int number, int place) {
        fault("", inHex, most, number, place);
    }
}
