import java.util.NoSuchElementException;

/** The face: promises 1 to 12 with plain inputs, edges and wrong inputs. */
public final class FaceTest {
    public static void main(String[] args) {
        newObject();
        feeding();
        ending();
        running();
        faultyRuns();
        states();
        outputs();
        telling();
        fuelUsed();
        madeCounted();
        bindingsCounted();
        Tongue.close();
    }

    private static int truth(boolean b) {
        return b ? 1 : 0;
    }

    /** 1 when the call throws as the document says, 0 when it answers. */
    private static int throwsAt(EnvironTongue x, boolean out, int i) {
        try {
            if (out) {
                x.outAt(i);
            } else {
                x.toldAt(i);
            }
            return 0;
        } catch (NoSuchElementException e) {
            return 1;
        }
    }

    private static void newObject() {
        EnvironTongue x = new EnvironTongue();
        Tongue.due("NONE", EnvironTongue.NONE, -1);
        Tongue.due("new state", x.state(), 0);
        Tongue.due("new out", x.out(), 0);
        Tongue.due("new told", x.told(), 0);
        Tongue.due("new outAt(0)", throwsAt(x, true, 0), 1);
        Tongue.due("new toldAt(0)", throwsAt(x, false, 0), 1);
        Tongue.due("new fuel", x.fuel(), 0);
        Tongue.due("new made", x.made(), 0);
        Tongue.due("new bindings", x.bindings(), 0);
        Tongue.due("end(1) of an empty tape", truth(x.end(1)), 0);
        Tongue.due("run of an empty tape", x.run(5), 0);
        Tongue.due("its state", x.state(), 0);
    }

    private static void feeding() {
        Tongue t = new Tongue();
        // The highest byte stands first: (+ 1 2) and blanks.
        Tongue.due("feed", truth(t.x.feed(0x282b2031, 0x20322920, 0x20202020, 0x20202020, 0x20202020)), 1);
        Tongue.due("run", t.x.run(100), 1);
        Tongue.due("told", t.told(), "3");
        int fed = 0;
        while (fed < 1000 && t.x.feed(0x20202020, 0x20202020, 0x20202020, 0x20202020, 0x20202020)) {
            fed++;
        }
        Tongue.due("feeds that fit", fed, 204);
        Tongue.due("end(4080)", truth(t.x.end(4080)), 1);
        Tongue.due("end(4081)", truth(t.x.end(4081)), 0);
        Tongue.due("end(4076)", truth(t.x.end(4076)), 1);
        Tongue.due("feed up to 4096", truth(t.x.feed(0x20202020, 0x20202020, 0x20202020, 0x20202020, 0x20202037)), 1);
        Tongue.due("feed beyond", truth(t.x.feed(0, 0, 0, 0, 0)), 0);
        Tongue.due("run of 4096 bytes", t.x.run(100), 1);
        Tongue.due("told", t.told(), "7");
        Tongue.due("the tape is empty then", truth(t.x.end(1)), 0);
    }

    private static void ending() {
        Tongue t = new Tongue();
        t.feed("12345 ");
        Tongue.due("end(-1)", truth(t.x.end(-1)), 0);
        Tongue.due("end(21)", truth(t.x.end(21)), 0);
        Tongue.due("end(20)", truth(t.x.end(20)), 1);
        Tongue.due("end(3)", truth(t.x.end(3)), 1);
        Tongue.due("end(4)", truth(t.x.end(4)), 0);
        Tongue.due("run", t.x.run(9), 1);
        Tongue.due("told", t.told(), "123");
        t.feed("1 2");
        Tongue.due("end(0)", truth(t.x.end(0)), 1);
        Tongue.due("run of nothing", t.x.run(9), 0);
    }

    private static void running() {
        Tongue t = new Tongue();
        Tongue.due("three data", t.run("1 (+ 1 1) \"three\""), 3);
        Tongue.due("told", t.told(), "\"three\"");
        Tongue.due("an error in the second", t.run("1 (car 2) 3"), 1);
        Tongue.due("only a remark", t.run(" ; 1 2 3"), 0);
        Tongue.due("told of no data", t.x.told(), 0);
        t.run("(show 12) (car 5)");
        Tongue.due("run(-1)", t.run("1", -1), -1);
        Tongue.due("run(30001)", t.run("1", 30001), -1);
        Tongue.due("the state stays", t.x.state(), 1);
        Tongue.due("the output stays", t.out(), "12");
        Tongue.due("the message stays", t.told(), "bad arguments: car");
        Tongue.due("run(30000)", t.run("1", 30000), 1);
        Tongue.due("run(0) of nothing", t.run("", 0), 0);
        Tongue.due("its state", t.x.state(), 0);
        Tongue.due("run(0) of a datum", t.run("1", 0), 0);
        Tongue.due("its state", t.x.state(), 2);
        t.feed("1 2 3");
        Tongue.due("run(-1) takes the tape, too", t.x.run(-1), -1);
        Tongue.due("so it is empty", truth(t.x.end(1)), 0);
    }

    private static void faultyRuns() {
        Tongue t = new Tongue();
        t.run("(show 1) 2");
        int fuel = t.x.fuel();
        t.faults("(show 5) (", 10);
        t.faults(")", 0);
        Tongue.due("a fault takes no fuel", t.x.fuel(), fuel);
        t.run("(car 5)");
        t.faults("\"", 0);
    }

    private static void states() {
        Tongue t = new Tongue();
        t.run("1");
        Tongue.due("fine", t.x.state(), 0);
        t.run("q");
        Tongue.due("an error", t.x.state(), 1);
        t.run("(+ 1 2)", 3);
        Tongue.due("too little fuel", t.x.state(), 2);
        Tongue.due("told then", t.x.told(), 0);
        t.run("5");
        Tongue.due("fine again", t.x.state(), 0);
        Tongue loop = new Tongue();
        Tongue.due("a run without an end", loop.run("7 ($define! n 0) ($while #t 1)", 30000), 2);
        Tongue.due("state", loop.x.state(), 2);
        Tongue.due("fuel", loop.x.fuel(), 30000);
        Tongue.due("behind that, without fuel", loop.run("7", 0), 0);
        Tongue.due("it is 2", loop.x.state(), 2);
        Tongue.due("behind that, with fuel", loop.run("7 8", 10), 0);
        Tongue.due("it is 3", loop.x.state(), 3);
        Tongue.due("no run is begun any more", loop.run("", 10), -1);
        Tongue.due("nor one with a fault", loop.run(")", 10), -1);
        Tongue.due("the state stays", loop.x.state(), 3);
    }

    private static void outputs() {
        Tongue t = new Tongue();
        t.run("(write 1 \"a\") (newline) (show \"b\" #t) (write)");
        Tongue.due("output", t.out(), "1 \"a\"\nb #t");
        Tongue.due("outAt(-1)", throwsAt(t.x, true, -1), 1);
        Tongue.due("outAt(0)", t.x.outAt(0), '1');
        Tongue.due("outAt(9)", t.x.outAt(9), 't');
        Tongue.due("outAt(10)", throwsAt(t.x, true, 10), 1);
        t.run("1");
        Tongue.due("a new run has its own", t.x.out(), 0);
        t.run("(show \"\u00e9\u00ff\")");
        Tongue.due("bytes are not below 0", t.x.outAt(0) * 1000 + t.x.outAt(1), 233255);
        t.run("(show 1) (car 0)");
        Tongue.due("output ahead of an error", t.out(), "1");
        t.run("(show 1) ($while #t 1)", 100);
        Tongue.due("output ahead of the fuel's end", t.out(), "1");
        String s = "($define! s (string-append \"" + "x".repeat(999) + "\")) (show s s s s) (show \"abc\")";
        t.run(s.substring(0, s.length() - 13) + "(show 12345678)");
        Tongue.due("output has room for", t.x.out(), 4007);
        t.run("(show s s s s) (show s)");
        Tongue.due("what does not fit is left out", t.x.out(), 4096);
        Tongue.due("byte by byte", t.x.outAt(4095), 'x');
    }

    private static void telling() {
        Tongue t = new Tongue();
        t.is("1 (list 1 \"b\\n\")", "(1 \"b\\n\")");
        Tongue.due("toldAt(-1)", throwsAt(t.x, false, -1), 1);
        Tongue.due("toldAt(0)", t.x.toldAt(0), '(');
        Tongue.due("toldAt(8)", t.x.toldAt(8), ')');
        Tongue.due("toldAt(9)", throwsAt(t.x, false, 9), 1);
        t.fails("1 2 (error \"no\" 3)", "no 3");
        t.run("1 ($while #t 1)", 100);
        Tongue.due("told when the fuel ends", t.x.told(), 0);
        t.fails("(error)", "");
        t.is("\"\u00ff\"", "\"\u00ff\"");
        Tongue.due("a high byte", t.x.toldAt(1), 255);
    }

    private static void fuelUsed() {
        Tongue t = new Tongue();
        t.takes("1", 1, 0);
        t.takes("(+ 1 2 (* 3 4))", 8, 12);
        t.takes("1 2 3", 3, 0);
        t.takes("(car 5)", 3, 3);
        t.takes(")", 0, 0);
        Tongue.due("fuel", t.x.fuel(), 15);
        t.run("(+ 1 2)", 2);
        Tongue.due("what a run had is used", t.x.fuel(), 17);
    }

    private static void madeCounted() {
        Tongue t = new Tongue();
        t.takes("\"\"", 1, 1);
        t.takes("\"1234567890123456\" \"12345678901234567\"", 2, 5);
        t.takes("($quote (a . b))", 2, 3);
        t.takes("(a b", 0, 0);
        t.takes("(a b) \"x\" (c", 0, 4);
        t.takes("($define! q 1) ($define! q 2)", 6, 7);
        Tongue.due("made", t.x.made(), 20);
    }

    private static void bindingsCounted() {
        Tongue t = new Tongue();
        t.run("($define! a 1) ($define! (b c . d) ($quote (1 2 3))) ($define! a 2)");
        Tongue.due("bindings", t.x.bindings(), 4);
        t.run("($let ((z 1)) ($define! y z) ($set! ($current) x 1)) car");
        Tongue.due("those of others don't count", t.x.bindings(), 4);
        t.run("($define! car 1)");
        Tongue.due("a name of the ground, too", t.x.bindings(), 5);
        t.run("($define! (e f) ($quote (1)))");
        Tongue.due("what a mismatch left", t.x.bindings(), 6);
    }
}
