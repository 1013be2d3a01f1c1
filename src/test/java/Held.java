/** The rows and PLACE of an object as they have to be; OUT has at most 14 bytes where it is made, PLACE is 1 .. 15. */
record Held(String history, String in, String out, int place) {
    /** An object that holds all this. */
    TokenFrames make() {
        TokenFrames x = Rows.with(history, "");
        Rows.load(x, Parts.last(out));
        x.unblock(8000);
        // A DISTANCE of 0 behind literals: PLACE is told, OUT stays.
        Rows.load(x, String.format("%x0", place - 1) + Rows.times(place - 1, "99") + "00 00");
        x.unblock(8000);
        Rows.load(x, in);
        return x;
    }

    Held withIn(String other) {
        return new Held(history, other, out, place);
    }

    Held withOut(String other) {
        return new Held(history, in, other, place);
    }

    Held withHistory(String other) {
        return new Held(other, in, out, place);
    }

    Held withPlace(int other) {
        return new Held(history, in, out, other);
    }

    /** Looks at all of it; the object is of no use behind that. */
    void check(Checks checks, String after, TokenFrames x) {
        checks.due("PLACE after " + after, x.place(), place);
        checkIn(checks, after, x);
        int n = Rows.count(out);
        checks.due("size() after " + after, x.size(), n);
        checks.due("byteAt(" + n + ") after " + after, x.byteAt(n), -1);
        checks.same("OUT after " + after, Rows.out(x), Rows.shown(out));
        checkHistory(checks, after, x);
    }

    private void checkIn(Checks checks, String after, TokenFrames x) {
        int n = Rows.count(in);
        checks.due("sum of IN after " + after, x.sum(), (int) Rows.sum(in));
        checks.same("IN has " + n + " bytes after " + after, n == 0 || x.again(n, 0), true);
        checks.same("IN has " + (n + 1) + " bytes after " + after, x.again(n + 1, 0), false);
    }

    private void checkHistory(Checks checks, String after, TokenFrames x) {
        int n = Rows.count(history);
        Rows.load(x, "00" + Parts.pair(n + 1) + "00");
        checks.due("DISTANCE behind HISTORY after " + after, x.unblock(8000), -2);
        if (n > 0) {
            int length = Math.max(4, n);
            Rows.load(x, Parts.copy("", n, length) + "00");
            checks.due("a copy of HISTORY after " + after, x.unblock(8000), length);
            checks.same("HISTORY after " + after, Rows.out(x), Rows.shown(Rows.first(length, Rows.times(4, history))));
        }
    }
}
