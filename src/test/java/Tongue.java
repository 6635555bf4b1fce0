/** What the tests share: an object that is fed texts, and a count of answers that are not as due. */
final class Tongue {
    private static int wrong = 0;
    private static int asked = 0;

    final EnvironTongue x = new EnvironTongue();

    static void due(String what, long got, long want) {
        asked++;
        if (got != want) {
            wrong++;
            System.out.println(what + " answered " + got + ", due is " + want);
        }
    }

    static void due(String what, String got, String want) {
        asked++;
        if (!got.equals(want)) {
            wrong++;
            System.out.println(what + " answered <" + got + ">, due is <" + want + ">");
        }
    }

    /** Ends the test: with exit code 1 if an answer was not as due. */
    static void close() {
        System.out.println(asked + " answers, " + wrong + " not as due");
        if (wrong != 0 || asked == 0) {
            System.exit(1);
        }
    }

    boolean feed(String text) {
        int n = text.length();
        boolean fits = true;
        for (int i = 0; i < n; i += 20) {
            int[] w = new int[5];
            for (int j = 0; j < 20; j++) {
                int b = i + j < n ? text.charAt(i + j) & 255 : 32;
                w[j / 4] |= b << 24 - 8 * (j % 4);
            }
            fits &= x.feed(w[0], w[1], w[2], w[3], w[4]);
        }
        return fits;
    }

    /** Feeds the text (to an empty tape), cuts the tape to its length, and runs it. */
    int run(String text, int fuel) {
        due("feed " + text, feed(text) ? 1 : 0, 1);
        due("end " + text, x.end(text.length()) ? 1 : 0, 1);
        return x.run(fuel);
    }

    int run(String text) {
        return run(text, 30000);
    }

    String told() {
        StringBuilder s = new StringBuilder();
        for (int i = 0; i < x.told(); i++) {
            s.append((char) x.toldAt(i));
        }
        return s.toString();
    }

    String out() {
        StringBuilder s = new StringBuilder();
        for (int i = 0; i < x.out(); i++) {
            s.append((char) x.outAt(i));
        }
        return s.toString();
    }

    /** The text's last value. */
    void is(String text, String want) {
        run(text);
        due("state of " + text, x.state(), 0);
        due(text, told(), want);
    }

    /** The text's error. */
    void fails(String text, String want) {
        run(text);
        due("state of " + text, x.state(), 1);
        due(text, told(), want);
    }

    /** The place of the text's fault. */
    void faults(String text, int place) {
        due("fault of " + text, run(text), -2 - place);
        due("state of " + text, x.state(), 0);
        due("told of " + text, x.told(), 0);
        due("out of " + text, x.out(), 0);
    }

    /** The fuel and the MADE that the text takes. */
    void takes(String text, int fuel, int made) {
        int usedBefore = x.fuel();
        int madeBefore = x.made();
        run(text);
        due("fuel of " + text, x.fuel() - usedBefore, fuel);
        due("made of " + text, x.made() - madeBefore, made);
    }

    /** What a new object answers to the text. */
    static void fresh(String text, String want) {
        new Tongue().is(text, want);
    }

    static void freshFails(String text, String want) {
        new Tongue().fails(text, want);
    }
}
