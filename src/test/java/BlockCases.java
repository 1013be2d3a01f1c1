/** Asks for one block: that it is written as it is due, or read to what it stands for, or to its fault. */
abstract class BlockCases extends Parts {
    final Checks checks;

    BlockCases(String name) {
        checks = new Checks(name);
    }

    final void written(String historyHex, String inHex, int way, String want) {
        Held held = new Held(historyHex, inHex, "07 08", 5);
        TokenFrames x = held.make();
        String call = "block(" + way + ") of " + inHex + " behind " + historyHex;
        checks.due(call, x.block(way), Rows.count(want));
        held.withOut(want).check(checks, call, x);
        x = Rows.with(historyHex, inHex);
        x.block(way);
        x.turn();
        checks.due("unblock of " + call, x.unblock(8000), Rows.count(inHex));
        checks.same("OUT of unblock of " + call, Rows.out(x), Rows.shown(inHex));
    }

    final void writtenByAll(String historyHex, String inHex, String want) {
        for (int way = 0; way < 4; way++) {
            written(historyHex, inHex, way, want);
        }
    }

    final void read(String historyHex, String inHex, int most, String want) {
        Held held = new Held(historyHex, inHex, "07 08", 5);
        TokenFrames x = held.make();
        String call = "unblock(" + most + ") of " + inHex + " behind " + historyHex;
        checks.due(call, x.unblock(most), Rows.count(want));
        held.withOut(want).withPlace(Rows.count(inHex)).check(checks, call, x);
    }

    final void fault(String historyHex, String inHex, int most, int number, int place) {
        Held held = new Held(historyHex, inHex, "07 08", 5);
        TokenFrames x = held.make();
        String call = "unblock(" + most + ") of " + inHex + " behind " + historyHex;
        checks.due(call, x.unblock(most), -number);
        held.withPlace(place).check(checks, call, x);
    }
}
