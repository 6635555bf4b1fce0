import java.util.NoSuchElementException;

/** The boundary cases that promises 1 to 12 name: the last that is taken, the first that is not. */
public final class EdgesOfFaceTest {
    private static final int[] FAR = {Integer.MIN_VALUE, Integer.MIN_VALUE + 1, -4097, -2, -1};
    private static final int BLANK = 0x20202020;

    public static void main(String[] args) {
        newObject();
        twoObjects();
        feedUpToItsRoom();
        feedTakesEachByte();
        endUpToWhatIsThere();
        whatEndCutIsGone();
        fuelOfRun();
        refusedRuns();
        countsOfRun();
        placesOfFaults();
        statesOfRuns();
        outAtItsEnds();
        toldAtItsEnds();
        toldOfEachState();
        fuelOfAllRuns();
        madeOfAllRuns();
        bindingsOfNames();
        Tongue.close();
    }

    private static int truth(boolean b) {
        return b ? 1 : 0;
    }

    private static int throwsAt(EnvironTongue x, boolean out, int i) {
        try {
            if (out) {
                x.outAt(i);
            } else {
                x.toldAt(i);
            }
            return 0;
        } catch (NoSuchElementException e) {
            return 1;
        }
    }

    // ---- promise 1: "The ground, an empty global environment; nothing run; the tape is empty."

    private static void newObject() {
        Tongue t = new Tongue();
        String fresh = "state 0, fuel 0, made 0, bindings 0, out <>, told <>";
        Tongue.due("a new object", t.all(), fresh);
        Tongue.due("its tape has 0 bytes", truth(t.x.end(0)), 1);
        Tongue.due("its tape has no byte", truth(t.x.end(1)), 0);
        Tongue.due("a run of it", t.x.run(0), 0);
        Tongue.due("behind that run", t.all(), fresh);
        t.is("($binds? ($current) $if car root $while dynamic-wind)", "#t");
        Tongue.due("the names of the ground are not its own", t.x.bindings(), 0);
    }

    private static void twoObjects() {
        Tongue one = new Tongue();
        Tongue two = new Tongue();
        one.run("($define! a 1) ($define! car 2) ($quote #0=(x)) (write 5)");
        String all = one.all();
        two.fails("a", "unbound: a");
        two.is("(car ($quote (7)))", "7");
        two.faults("#0#", 0);
        two.run("($define! a 3) ($define! b 4) (show 8)");
        Tongue.due("one object says nothing to another", one.all(), all);
        one.is("(list a car)", "(1 2)");
        Tongue.due("bindings of the one", one.x.bindings(), 2);
        Tongue.due("bindings of the other", two.x.bindings(), 2);
    }

    // ---- promise 2: "false, changing nothing, when it would have more than 4096"

    private static void feedUpToItsRoom() {
        for (int cut = 4074; cut <= 4080; cut++) {
            Tongue t = new Tongue();
            for (int i = 0; i < 204; i++) {
                Tongue.due("feed " + i, truth(t.x.feed(BLANK, BLANK, BLANK, BLANK, BLANK)), 1);
            }
            Tongue.due("204 feeds are 4080 bytes", truth(t.x.end(4081)), 0);
            Tongue.due("end", truth(t.x.end(cut)), 1);
            boolean fits = cut + 20 <= 4096;
            // The last of the bytes is a word.
            Tongue.due("feed behind " + cut, truth(t.x.feed(BLANK, BLANK, BLANK, BLANK, 0x20202037)), truth(fits));
            int length = fits ? cut + 20 : cut;
            Tongue.due("more than is there", truth(t.x.end(length + 1)), 0);
            Tongue.due("what is there", truth(t.x.end(length)), 1);
            Tongue.due("data behind " + cut, t.x.run(9), fits ? 1 : 0);
            Tongue.due("told behind " + cut, t.told(), fits ? "7" : "");
        }
        Tongue t = new Tongue();
        t.feed("1 ".repeat(2048));
        Tongue.due("a full tape", truth(t.x.end(4096)), 1);
        Tongue.due("has no room", truth(t.x.feed(0, 0, 0, 0, 0)), 0);
        Tongue.due("nor then", truth(t.x.feed(-1, -1, -1, -1, -1)), 0);
        Tongue.due("each byte of it counts", t.x.run(30000), 2048);
        Tongue.due("it is empty then", truth(t.x.feed(BLANK, BLANK, BLANK, BLANK, BLANK)), 1);
        Tongue.due("but for that", truth(t.x.end(21)), 0);
    }

    /** "Appends twenty bytes to the tape, of each number the highest first." */
    private static void feedTakesEachByte() {
        for (int from = 0; from < 256; from += 16) {
            Tongue t = new Tongue();
            int[] w = new int[4];
            for (int i = 0; i < 16; i++) {
                w[i / 4] |= from + i << 24 - 8 * (i % 4);
            }
            // A string of sixteen bytes: with " in it a fault is behind that, with a bad backslash at it.
            boolean plain = from != 32 && from != 80;
            t.x.feed(0x20202022, w[0], w[1], w[2], w[3]);
            t.x.feed(0x22202020, BLANK, BLANK, BLANK, BLANK);
            Tongue.due("data of bytes from " + from, t.x.run(9), plain ? 1 : -2 - (from == 32 ? 7 : 16));
            for (int i = 0; plain && i < 16; i++) {
                int at = from == 0 && i > 10 ? i + 2 : i + 1;
                Tongue.due("byte " + (from + i), t.x.toldAt(at), from + i == 10 ? '\\' : from + i);
            }
        }
        Tongue t = new Tongue();
        Tongue.due("five numbers", truth(t.x.feed(0x31323334, 0x35363738, 0x39303132, 0x33343536, 0x37383930)), 1);
        Tongue.due("one datum", t.x.run(9), 1);
        Tongue.due("in order", t.told(), "12345678901234567890");
    }

    // ---- promise 3: "false, changing nothing, when it has not so many, or n is below 0"

    private static void endUpToWhatIsThere() {
        Tongue t = new Tongue();
        t.feed("(list 1 2 3 4 5 6 7)");
        for (int n : FAR) {
            Tongue.due("end " + n, truth(t.x.end(n)), 0);
        }
        for (int n : new int[] {21, 22, 4096, Integer.MAX_VALUE}) {
            Tongue.due("end " + n, truth(t.x.end(n)), 0);
        }
        Tongue.due("all are there still", truth(t.x.end(20)), 1);
        Tongue.due("run", t.x.run(99), 1);
        Tongue.due("told", t.told(), "(1 2 3 4 5 6 7)");
        Tongue.due("end(0) of an empty tape", truth(t.x.end(0)), 1);
        Tongue.due("end(1) of an empty tape", truth(t.x.end(1)), 0);
        Tongue.due("end(-1) of an empty tape", truth(t.x.end(-1)), 0);
    }

    private static void whatEndCutIsGone() {
        Tongue t = new Tongue();
        t.feed("12345678901234567890");
        Tongue.due("the first three", truth(t.x.end(3)), 1);
        Tongue.due("the fourth is gone", truth(t.x.end(4)), 0);
        Tongue.due("three are there", truth(t.x.end(3)), 1);
        t.x.feed(0x20353637, BLANK, BLANK, BLANK, BLANK);
        Tongue.due("what is fed then stands behind them", t.x.run(9), 2);
        Tongue.due("told", t.told(), "567");
        t.feed("12345678901234567890");
        Tongue.due("none of them", truth(t.x.end(0)), 1);
        t.x.feed(0x39202020, BLANK, BLANK, BLANK, BLANK);
        Tongue.due("then only what is fed then", t.x.run(9), 1);
        Tongue.due("told", t.told(), "9");
    }

    // ---- promise 4: fuel 0 .. 30000, how many of its data were evaluated to their end, the place of a fault

    private static void fuelOfRun() {
        for (int fuel : new int[] {Integer.MIN_VALUE, -30000, -1, 30001, 30002, 65536, Integer.MAX_VALUE}) {
            Tongue t = Tongue.with("($define! a 1) (write 5) 6");
            String all = t.all();
            Tongue.due("run " + fuel, t.run("(write 7) 8", fuel), -1);
            Tongue.due("run " + fuel + " changes nothing else", t.all(), all);
            Tongue.due("the tape is empty", truth(t.x.end(1)), 0);
            Tongue.due("a fault is none then", t.run(")", fuel), -1);
            Tongue.due("nor does an empty tape say anything", t.x.run(fuel), -1);
            Tongue.due("nothing else", t.all(), all);
            Tongue.due("runs are begun behind that", t.run("9"), 1);
            Tongue.due("told", t.told(), "9");
        }
        for (int fuel : new int[] {0, 1, 2, 29999, 30000}) {
            Tongue t = new Tongue();
            Tongue.due("run " + fuel, t.run("7", fuel), fuel == 0 ? 0 : 1);
            Tongue.due("state", t.x.state(), fuel == 0 ? 2 : 0);
            Tongue.due("fuel", t.x.fuel(), fuel == 0 ? 0 : 1);
        }
    }

    /** "NONE, changing nothing else (state and the like stay), ... when no run is begun any more." */
    private static void refusedRuns() {
        Tongue t = Tongue.left(0, "($define! a 1)");
        Tongue.due("what makes nothing is run", t.run("7 a"), 2);
        Tongue.due("the end of MADE", t.run("8 \"\""), 0);
        String all = t.all();
        Tongue.due("it is 3", t.x.state(), 3);
        for (int fuel : new int[] {-1, 0, 1, 30000, 30001}) {
            Tongue.due("no run of data", t.run("7", fuel), -1);
            Tongue.due("nor of a fault", t.run("(", fuel), -1);
            Tongue.due("nor of nothing", t.x.run(fuel), -1);
        }
        Tongue.due("all stays", t.all(), all);
        Tongue.due("the tape takes bytes still", truth(t.feed("123")), 1);
        Tongue.due("and has them", truth(t.x.end(20)), 1);
        Tongue.due("not more", truth(t.x.end(21)), 0);
    }

    private static void countsOfRun() {
        Tongue t = new Tongue();
        Tongue.due("none", t.run(""), 0);
        Tongue.due("blanks", t.run(" \t\r\n"), 0);
        Tongue.due("one", t.run("1"), 1);
        Tongue.due("two", t.run("1 2"), 2);
        Tongue.due("an error in the first", t.run("a 1 2"), 0);
        Tongue.due("in the second", t.run("1 a 2"), 1);
        Tongue.due("in the last", t.run("1 2 a"), 2);
        Tongue.due("no fuel", t.run("1 2 3", 0), 0);
        Tongue.due("for one", t.run("1 2 3", 1), 1);
        Tongue.due("for two", t.run("1 2 3", 2), 2);
        Tongue.due("it is 2", t.x.state(), 2);
        Tongue.due("for three", t.run("1 2 3", 3), 3);
        Tongue.due("it is 0", t.x.state(), 0);
        Tongue.due("one that was left counts", t.run("1 (list 2 (throw root 3)) 4"), 3);
        Tongue full = new Tongue();
        Tongue.due("as many as there can be", full.run("a\"\"".repeat(1365)), 0);
        Tongue.due("each of them", full.run("1\"\"".repeat(1365)), 2730);
    }

    /** "-2 - the place of a fault (nothing is evaluated; state and output are those of a run without data ...)". */
    private static void placesOfFaults() {
        for (int place : new int[] {0, 1, 2, 19, 20, 4094, 4095}) {
            Tongue t = Tongue.with("($define! a 1)");
            t.run("(write 5) (car a)");
            int fuel = t.x.fuel();
            Tongue.due("fault at " + place, t.run(" ".repeat(place) + ")"), -2 - place);
            Tongue.due("state, out, told", t.x.state() + t.x.out() + t.x.told(), 0);
            Tongue.due("nothing is evaluated", t.x.fuel(), fuel);
        }
        for (int length : new int[] {1, 2, 4095, 4096}) {
            Tongue t = new Tongue();
            Tongue.due("the text's length " + length, t.run("(" + " ".repeat(length - 1)), -2 - length);
        }
        Tongue t = Tongue.with("($define! a 1)");
        Tongue.due("data ahead of the fault", t.run("($define! a 2) ($define! b 3) (write 4) )"), -2 - 40);
        Tongue.due("out", t.x.out(), 0);
        Tongue.due("bindings", t.x.bindings(), 1);
        t.is("a", "1");
        Tongue.due("a fault with fuel 0", t.run("1 )", 0), -4);
        Tongue.due("is no end of fuel", t.x.state(), 0);
    }

    // ---- promise 5: 0 fine, 1 an error, 2 its fuel was not enough, 3 what is there in all was not

    private static void statesOfRuns() {
        Tongue t = new Tongue();
        int[] due = {0, 1, 2, 0, 2, 1, 0};
        String[] texts = {"1", "a", "1 2 3 4 5 6", "", "(list 1 2 3 4)", "1 (car 1)", ")"};
        for (int i = 0; i < texts.length; i++) {
            t.run(texts[i], 5);
            Tongue.due("state of " + texts[i], t.x.state(), due[i]);
        }
        Tongue u = Tongue.left(3, "");
        u.run("\"12345678901234567\"");
        Tongue.due("all that is there", u.x.state(), 0);
        u.run("1 \"\"");
        Tongue.due("one more", u.x.state(), 3);
        u.run("1");
        Tongue.due("for ever", u.x.state(), 3);
    }

    // ---- promises 6 and 7: "NoSuchElementException: there is none."

    private static void outAtItsEnds() {
        Tongue t = new Tongue();
        for (int n = 0; n < 4; n++) {
            t.run("(show \"" + "abc".substring(0, n) + "\")");
            Tongue.due("out", t.x.out(), n);
            Tongue.due("its byte -1", throwsAt(t.x, true, -1), 1);
            Tongue.due("its byte " + n, throwsAt(t.x, true, n), 1);
            for (int i = 0; i < n; i++) {
                Tongue.due("its byte " + i, t.x.outAt(i), 'a' + i);
            }
        }
        for (int i : new int[] {Integer.MIN_VALUE, 4, 4095, 4096, Integer.MAX_VALUE}) {
            Tongue.due("its byte " + i, throwsAt(t.x, true, i), 1);
        }
        Tongue full = Tongue.with("($define! s \"" + "a".repeat(999) + "z\")");
        full.run("(show s s s s)");
        Tongue.due("out", full.x.out(), 4003);
        full.run("(show s s s s) (show \"" + "b".repeat(92) + "\") (show \"y\")");
        Tongue.due("out to its room", full.x.out(), 4096);
        Tongue.due("its last byte", full.x.outAt(4095), 'y');
        Tongue.due("none behind it", throwsAt(full.x, true, 4096), 1);
    }

    // ---- promises 8 and 9

    private static void toldAtItsEnds() {
        Tongue t = new Tongue();
        String[] texts = {"", "1", "12", "(quote", "($quote abc)", "(error)", "(error \"ab\")"};
        int[] lengths = {0, 1, 2, 0, 3, 0, 2};
        for (int i = 0; i < texts.length; i++) {
            t.run(texts[i]);
            Tongue.due("told of " + texts[i], t.x.told(), lengths[i]);
            Tongue.due("byte -1 of " + texts[i], throwsAt(t.x, false, -1), 1);
            Tongue.due("byte behind " + texts[i], throwsAt(t.x, false, lengths[i]), 1);
            if (lengths[i] > 0) {
                Tongue.due("last byte of " + texts[i], throwsAt(t.x, false, lengths[i] - 1), 0);
            }
        }
        for (int i : new int[] {Integer.MIN_VALUE, 2, 200, 1003, Integer.MAX_VALUE}) {
            Tongue.due("its byte " + i, throwsAt(t.x, false, i), 1);
        }
        Tongue.due("looking changes nothing", t.told(), "ab");
    }

    /** "0 if there was none, or the run ended ahead of its end: states 2, 3; or, of an error, the message" */
    private static void toldOfEachState() {
        Tongue t = new Tongue();
        t.is("1 2 \"three\"", "\"three\"");
        t.run("\"one\" 2 3", 2);
        Tongue.due("told of 2", t.x.told(), 0);
        t.fails("\"one\" two 3", "unbound: two");
        t.run("; nothing");
        Tongue.due("told of no data", t.x.told(), 0);
        t.run("1 (");
        Tongue.due("told of a fault", t.x.told(), 0);
        Tongue u = Tongue.left(2, "");
        u.run("1 (list 2)");
        Tongue.due("state", u.x.state(), 3);
        Tongue.due("told of 3", u.x.told(), 0);
        Tongue.due("data of 3", u.x.made(), 30000);
    }

    // ---- promises 10, 11, 12

    private static void fuelOfAllRuns() {
        Tongue t = new Tongue();
        int[] due = {0, 1, 3, 6, 6, 6, 8, 9};
        String[] texts = {"", "1", "1 2", "(+ 1)", ")", "1", "1 2 3 4", "a b"};
        int[] fuels = {5, 5, 5, 5, 5, -1, 2, 5};
        for (int i = 0; i < texts.length; i++) {
            t.run(texts[i], fuels[i]);
            Tongue.due("fuel behind " + texts[i], t.x.fuel(), due[i]);
        }
        Tongue u = new Tongue();
        u.run("($while #t 1)", 30000);
        Tongue.due("all", u.x.fuel(), 30000);
        u.run("1", 5);
        Tongue.due("never more", u.x.fuel(), 30000);
    }

    private static void madeOfAllRuns() {
        Tongue t = new Tongue();
        int[] due = {0, 0, 1, 3, 5, 5, 7, 8};
        String[] texts = {"", "1 a", "\"\"", "(a b)", "(a b) )", "\"\"", "(list)\"\"", "((a) (b"};
        int[] fuels = {5, 5, 5, 5, 5, 30001, 0, 5};
        for (int i = 0; i < texts.length; i++) {
            t.run(texts[i], fuels[i]);
            Tongue.due("made behind " + texts[i], t.x.made(), due[i]);
        }
    }

    private static void bindingsOfNames() {
        Tongue t = new Tongue();
        String[] texts = {"1", "($define! a 1)", "($define! a 2)", "($define! #ignore 2)", "($define! () ())", "($define! (b . c) ($quote (1)))",
            "($define! (d e) ($quote (1)))", "($let ((f 1)) ($define! g 2))", "($define! car 1)", "(($vau (h) i 1) 2)", "($define! j (car 1))",
            "($define! k", "($set! ($current) l 1)", "(($vau () e (eval ($quote ($define! m 1)) e)))", "($set! (make-environment) n 1)"};
        int[] due = {0, 1, 1, 1, 1, 3, 4, 4, 5, 5, 5, 5, 6, 7, 7};
        for (int i = 0; i < texts.length; i++) {
            t.run(texts[i]);
            Tongue.due("bindings behind " + texts[i], t.x.bindings(), due[i]);
        }
    }
}
