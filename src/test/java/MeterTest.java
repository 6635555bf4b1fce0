/** Fuel and MADE at their ends: what counts one by one, what at once, and what is begun then (promises 4, 5, 10, 11). */
public final class MeterTest {
    public static void main(String[] args) {
        madeAtOnce();
        madeWhileRead();
        madeInPairs();
        fuelInAll();
        guardsAndLimits();
        Tongue.close();
    }

    /** An object that has so much of MADE left. */
    private static Tongue left(int left) {
        Tongue t = new Tongue();
        String s = "\"" + "x".repeat(1000) + "\"";
        while (30000 - left - t.x.made() >= 64) {
            t.run(s);
        }
        t.run("\"\"".repeat(30000 - left - t.x.made()));
        Tongue.due("MADE so far", t.x.made(), 30000 - left);
        Tongue.due("state so far", t.x.state(), 0);
        return t;
    }

    /** An object that has so much left behind some definitions, which take what is said. */
    private static Tongue left(int left, String definitions, int made) {
        Tongue t = left(left + made);
        t.run(definitions);
        Tongue.due("MADE of " + definitions, t.x.made(), 30000 - left);
        return t;
    }

    private static void ended(Tongue t, String text, int done, int made) {
        Tongue.due("data of " + text, t.run(text), done);
        Tongue.due("state of " + text, t.x.state(), 3);
        Tongue.due("told of " + text, t.x.told(), 0);
        Tongue.due("made of " + text, t.x.made(), made);
        Tongue.due("no run is begun behind it", t.run("1"), -1);
        Tongue.due("state", t.x.state(), 3);
    }

    private static void madeAtOnce() {
        // All that is there may be made.
        Tongue t = left(2);
        Tongue.due("the last of it", t.run("\"x\""), 1);
        Tongue.due("made", t.x.made(), 30000);
        Tongue.due("state", t.x.state(), 0);
        Tongue.due("runs that make nothing are begun", t.run("1 car root"), 3);
        ended(t, "1 \"\"", 0, 30000);
        // Of what would go beyond nothing is counted.
        ended(left(2), "\"12345678901234567\"", 0, 29998);
        ended(left(2), "1/3", 0, 29998);
        ended(left(1, "($define! e (make-environment))", 6), "(make-environment)", 0, 30000);
        Tongue u = left(9, "($define! e ($current))", 5);
        ended(u, "5 (make-environment e e e)", 1, 30000 - 2);
        u = left(5, "($define! b 18446744073709551616)", 7);
        ended(u, "(abs b)", 0, 30000 - 2);
    }

    private static void madeWhileRead() {
        ended(left(3), "1 (show 2) (a b c) )", 0, 30000);
        ended(left(1), "(a b) )", 0, 30000);
        // What ends it comes first, or the fault does.
        Tongue t = left(3);
        Tongue.due("a fault ahead of the end", t.run("(a b) ) (c d)"), -8);
        Tongue.due("made", t.x.made(), 29999);
        Tongue.due("state", t.x.state(), 0);
        ended(t, "(c d)", 0, 30000);
    }

    private static void madeInPairs() {
        Tongue t = left(20, "($define! l (list 1 2 3))", 11);
        ended(t, "(append l l l l l l ())", 0, 30000);
        t = left(5, "($define! l (list 1 2 3))", 11);
        ended(t, "(reverse l)", 0, 30000);
        ended(left(2), "(list 1)", 0, 30000);
        // $lambda's are two; the first one counts though the second one does not fit.
        ended(left(3), "($lambda ())", 0, 30000);
    }

    private static void fuelInAll() {
        Tongue t = new Tongue();
        t.run("($while #t 1)", 29990);
        Tongue.due("fuel", t.x.fuel(), 29990);
        Tongue.due("state", t.x.state(), 2);
        Tongue.due("what is left in all", t.run("1 2 3 (list 4 5 6) (list 7 8 9)", 100), 4);
        Tongue.due("state", t.x.state(), 3);
        Tongue.due("fuel", t.x.fuel(), 30000);
        Tongue.due("no run", t.run("1"), -1);
        // Where both are at their end, the run's own end is told, and runs are begun.
        Tongue u = new Tongue();
        u.run("($while #t 1)", 29995);
        Tongue.due("five more", u.run("1 2 3 4 5 6", 5), 5);
        Tongue.due("state", u.x.state(), 2);
        Tongue.due("nothing to do", u.run("", 100), 0);
        Tongue.due("state", u.x.state(), 0);
        Tongue.due("a text is still read", u.run("(", 100), -3);
        Tongue.due("no fuel given", u.run("1", 0), 0);
        Tongue.due("state", u.x.state(), 2);
        Tongue.due("fuel given, but none is there", u.run("1", 1), 0);
        Tongue.due("state", u.x.state(), 3);
    }

    private static void guardsAndLimits() {
        // The end of MADE is no error that $guard takes, nor is there any for its string.
        ended(left(13), "($guard (car 1) ($lambda (m) m))", 0, 30000 - 1);
        ended(left(8), "($guard (car 1) list)", 0, 30000 - 2);
        ended(left(9), "($guard (car 1) list)", 0, 30000);
    }
}
