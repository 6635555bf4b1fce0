/** What the tests share: an object that is fed texts, and a count of answers that are not as due. */
final class Tongue {
    private static int wrong = 0;
    private static int asked = 0;
    /** The definitions that were asked for last, and what they take of MADE. */
    private static String latest = "";
    private static int madeByLatest = 0;
    /** What MADE and fuel are at most. */
    static final int MOST = 30000;
    /** How many bytes the tape has room for. */
    static final int ROOM = 4096;

    final EnvironTongue x = new EnvironTongue();

    static void due(String what, long got, long want) {
        asked++;
        if (got != want) {
            wrong++;
            System.out.println(what + " answered " + got + ", due is " + want);
        }
    }

    static void due(String what, String got, String want) {
        asked++;
        if (!got.equals(want)) {
            wrong++;
            System.out.println(what + " answered <" + got + ">, due is <" + want + ">");
        }
    }

    /** Ends the test: with exit code 1 if an answer was not as due. */
    static void close() {
        System.out.println(asked + " answers, " + wrong + " not as due");
        if (wrong != 0 || asked == 0) {
            System.exit(1);
        }
    }

    /** Feeds the text to an empty tape, blanks behind it; a text of more than 4080 bytes by cutting the tape. */
    boolean feed(String text) {
        int n = text.length();
        boolean fits = true;
        for (int i = 0; i < n; i += 20) {
            if (i + 20 > ROOM) {
                i = n - 20;
                fits &= x.end(i);
            }
            int[] w = new int[5];
            for (int j = 0; j < 20; j++) {
                int b = i + j < n ? text.charAt(i + j) & 255 : 32;
                w[j / 4] |= b << 24 - 8 * (j % 4);
            }
            fits &= x.feed(w[0], w[1], w[2], w[3], w[4]);
        }
        return fits;
    }

    /** Feeds the text (to an empty tape), cuts the tape to its length, and runs it. */
    int run(String text, int fuel) {
        due("feed " + text, feed(text) ? 1 : 0, 1);
        due("end " + text, x.end(text.length()) ? 1 : 0, 1);
        return x.run(fuel);
    }

    int run(String text) {
        return run(text, 30000);
    }

    String told() {
        StringBuilder s = new StringBuilder();
        for (int i = 0; i < x.told(); i++) {
            s.append((char) x.toldAt(i));
        }
        return s.toString();
    }

    String out() {
        StringBuilder s = new StringBuilder();
        for (int i = 0; i < x.out(); i++) {
            s.append((char) x.outAt(i));
        }
        return s.toString();
    }

    /** The text's last value. */
    void is(String text, String want) {
        run(text);
        due("state of " + text, x.state(), 0);
        due(text, told(), want);
    }

    /** The text's error. */
    void fails(String text, String want) {
        run(text);
        due("state of " + text, x.state(), 1);
        due(text, told(), want);
    }

    /** The place of the text's fault. */
    void faults(String text, int place) {
        due("fault of " + text, run(text), -2 - place);
        due("state of " + text, x.state(), 0);
        due("told of " + text, x.told(), 0);
        due("out of " + text, x.out(), 0);
    }

    /** The fuel and the MADE that the text takes. */
    void takes(String text, int fuel, int made) {
        int usedBefore = x.fuel();
        int madeBefore = x.made();
        run(text);
        due("fuel of " + text, x.fuel() - usedBefore, fuel);
        due("made of " + text, x.made() - madeBefore, made);
    }

    /** What the face tells, but of the tape: to see that what is refused changes nothing. */
    String all() {
        return "state " + x.state() + ", fuel " + x.fuel() + ", made " + x.made() + ", bindings " + x.bindings()
            + ", out <" + out() + ">, told <" + told() + ">";
    }

    /** A new object behind definitions, which come to their end. */
    static Tongue with(String definitions) {
        Tongue t = new Tongue();
        t.run(definitions);
        due("state of " + definitions, t.x.state(), 0);
        return t;
    }

    private static int madeBy(String definitions) {
        if (!definitions.equals(latest)) {
            latest = definitions;
            madeByLatest = with(definitions).x.made();
        }
        return madeByLatest;
    }

    /** A new object that has so much of MADE left behind the definitions. */
    static Tongue left(int left, String definitions) {
        Tongue t = new Tongue();
        t.run("($define! fill (/ (- (expt 2 2047) 1) (expt 2 2047)))");
        int rest = MOST - left - madeBy(definitions) - t.x.made();
        // Each of these makes five pairs and a string of 4096 bytes.
        t.run("(number->string fill 2)".repeat(rest / 262));
        t.run("\"\"".repeat(rest % 262));
        t.run(definitions);
        due("MADE behind " + definitions, t.x.made(), MOST - left);
        due("state behind " + definitions, t.x.state(), 0);
        return t;
    }

    /**
     * Behind the definitions, the text's value, or error (with ! ahead), and what it takes: with so much fuel
     * and so much of MADE left it ends like that; with less fuel it is 2 and all of that is used, with less of
     * MADE it is 3.
     */
    static void costs(String definitions, String text, String want, int fuel, int made) {
        int error = want.startsWith("!") ? 1 : 0;
        Tongue t = with(definitions);
        int fuelBefore = t.x.fuel();
        int madeBefore = t.x.made();
        t.run(text, fuel);
        due("state of " + text, t.x.state(), error);
        due(text, t.told(), want.substring(error));
        due("fuel of " + text, t.x.fuel() - fuelBefore, fuel);
        due("made of " + text, t.x.made() - madeBefore, made);
        for (int less = Math.max(0, fuel - 40); less < fuel; less++) {
            Tongue u = with(definitions);
            u.run(text, less);
            due("state with " + less + " for " + text, u.x.state(), 2);
            due("fuel with " + less + " for " + text, u.x.fuel() - fuelBefore, less);
            due("told with " + less + " for " + text, u.x.told(), 0);
        }
        Tongue v = left(made, definitions);
        v.run(text);
        due("state with MADE for " + text, v.x.state(), error);
        due("MADE for " + text, v.x.made(), MOST);
        if (made > 0) {
            Tongue w = left(made - 1, definitions);
            w.run(text);
            due("state without MADE for " + text, w.x.state(), 3);
            due("told without MADE for " + text, w.x.told(), 0);
        }
    }

    /** What a new object answers to the text. */
    static void fresh(String text, String want) {
        new Tongue().is(text, want);
    }

    static void freshFails(String text, String want) {
        new Tongue().fails(text, want);
    }

    static void freshFaults(String text, int place) {
        new Tongue().faults(text, place);
    }
}
