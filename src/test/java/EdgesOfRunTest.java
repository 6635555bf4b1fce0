/** The boundary cases of A RUN: what MADE counts, MADE and fuel to their last one, what ends a run and what is counted then. */
public final class EdgesOfRunTest {
    private static final String E = "($define! e ($current)) ";

    public static void main(String[] args) {
        stringsThatAreMade();
        numbersThatAreRead();
        numbersThatAreAnswered();
        whatDoesNotCountNumbers();
        pairsOneByOne();
        environments();
        bindings();
        combiners();
        calls();
        passed();
        whatIsReadCounts();
        theLastOfMade();
        theEndOfMadeWhileReading();
        theLastFuelOfARun();
        theLastFuelInAll();
        bothAtOnce();
        fuelOneByOne();
        errorsEndARun();
        endsLeaveWhatWasDone();
        whatIsRefusedMakesNothing();
        globalAndGround();
        Tongue.close();
    }

    /** With so much of MADE left the text ends fine and takes so much; with less it is 3, and so much is not counted. */
    private static void takes(String definitions, String text, int made, int lastAtOnce) {
        Tongue t = Tongue.left(made, definitions);
        t.run(text);
        Tongue.due("state of " + text, t.x.state(), 0);
        Tongue.due("made of " + text, t.x.made(), 30000);
        for (int less = 1; less <= Math.min(made, lastAtOnce); less++) {
            Tongue u = Tongue.left(made - less, definitions);
            int bindings = u.x.bindings();
            Tongue.due("data of " + text, u.run(text), 0);
            Tongue.due("state with less for " + text, u.x.state(), 3);
            Tongue.due("told with less for " + text, u.x.told(), 0);
            Tongue.due("made with less for " + text, u.x.made(), 30000 - lastAtOnce + less);
            Tongue.due("bindings with less for " + text, u.x.bindings(), bindings);
            Tongue.due("no run behind it", u.run("1"), -1);
        }
    }

    // ---- "a string 1 and 1 for each 16 bytes begun"

    private static void stringsThatAreMade() {
        int[] bytes = {0, 1, 2, 15, 16, 17, 31, 32, 33, 160, 161, 1000};
        int[] cost = {1, 2, 2, 2, 2, 3, 3, 3, 4, 11, 12, 64};
        for (int i = 0; i < bytes.length; i++) {
            String s = "s".repeat(bytes[i]);
            takes("", "\"" + s + "\"", cost[i], cost[i]);
            takes("($define! s \"" + s + "\")", "(string-append s)", 2 + 1 + cost[i], cost[i]);
            takes("($define! a \"" + s.substring(bytes[i] / 2) + "\") ($define! b \"" + s.substring(0, bytes[i] / 2) + "\")", "(string-append a b)", 3 + 2 + cost[i], cost[i]);
            if (bytes[i] > 0) {
                takes("($define! y ($quote " + s + "))", "(symbol->string y)", 2 + 1 + cost[i], cost[i]);
            }
            if (bytes[i] > 0 && bytes[i] <= 160) {
                takes("($define! x 1" + "0".repeat(bytes[i] - 1) + ")", "(number->string x)", 2 + 1 + cost[i], cost[i]);
            }
        }
        // What a backslash stands ahead of is one byte.
        takes("", "\"" + "\\n".repeat(16) + "\"", 2, 2);
        takes("", "\"" + "\\\"".repeat(17) + "\"", 3, 3);
        // An error's message, when a $guard takes it.
        takes("", "($guard (error) $quote)", 3 + 1 + 1 + 1, 1);
        takes("", "($guard (error 1) $quote)", 3 + 2 + 1 + 2 + 1, 1);
    }

    // ---- "a number that is no integer of 64 bits 1, and 1 for each 64 bits begun of N's size and of D (D 1: none)"

    private static void numbersThatAreRead() {
        String[] words = {"0", "-0", "1", "9223372036854775807", "-9223372036854775808", "4/2", "0/7", "9223372036854775808", "-9223372036854775809", "18446744073709551615",
            "18446744073709551616", "-18446744073709551616", "340282366920938463463374607431768211455", "340282366920938463463374607431768211456", "1/2", "-1/2", "2/4",
            "18446744073709551615/2", "18446744073709551616/3", "1/18446744073709551615", "1/18446744073709551616", "-18446744073709551617/18446744073709551616",
            "9223372036854775808/1", "18446744073709551616/2", "36893488147419103232/2"};
        int[] cost = {0, 0, 0, 0, 0, 0, 0, 2, 2, 2,
            3, 3, 3, 4, 3, 3, 3,
            3, 4, 3, 4, 5,
            2, 2, 3};
        for (int i = 0; i < words.length; i++) {
            takes("", words[i], cost[i], cost[i]);
            takes("", "($quote (" + words[i] + " " + words[i] + "))", 2 + 2 + 2 * cost[i], 0);
            takes("", "(string->number \"" + words[i] + "\")", 2 + 1 + (words[i].length() + 15) / 16 + 1 + cost[i], cost[i]);
        }
        String most = java.math.BigInteger.TWO.pow(2048).subtract(java.math.BigInteger.ONE).toString();
        takes("", most, 33, 33);
        takes("", "1/" + most, 34, 34);
        takes("", "-" + java.math.BigInteger.TWO.pow(2047).toString() + "/" + most, 65, 65);
    }

    /** "... or what one of the applicatives from + to expt ... answers (also where that is an argument)" */
    private static void numbersThatAreAnswered() {
        String d = "($define! b 18446744073709551616) ($define! f 1/3) ($define! m 9223372036854775807) ($define! s -9223372036854775808)";
        String[] texts = {"(+ b)", "(* b)", "(gcd b)", "(lcm b)", "(abs b)", "(numerator b)", "(floor b)", "(ceiling b)", "(truncate b)", "(round b)", "(+ f)", "(* f)", "(abs f)", "(- f)",
            "(/ f)", "(numerator f)", "(denominator f)", "(floor f)", "(- s)", "(abs s)", "(- b)", "(/ b)", "(denominator b)"};
        int[] cost = {3, 3, 3, 3, 3, 3, 3, 3, 3, 3, 3, 3, 3, 3,
            0, 0, 0, 0, 2, 2, 3, 1 + 1 + 2, 0};
        for (int i = 0; i < texts.length; i++) {
            takes(d, texts[i], 2 + 1 + cost[i], Math.max(1, cost[i]));
        }
        String[] two = {"(+ m 1)", "(- s 1)", "(* m 2)", "(* m 3)", "(* m m)", "(+ s m)", "(- b b)", "(* b b)", "(/ b 2)", "(/ 1 b)", "(/ b 3)", "(div b 1)", "(div b 2)", "(div b 3)",
            "(mod b m)", "(mod b 3)", "(mod -1 b)", "(expt 2 62)", "(expt 2 63)", "(expt -2 63)", "(expt 2 64)", "(expt 2 127)", "(expt 2 128)", "(expt 1/2 1)", "(expt 1/2 64)",
            "(expt 2/3 0)", "(gcd b 0)", "(lcm m 2)", "(+ f f)", "(* f 3)", "(+ 1/2 1/2)", "(expt 2 2047)"};
        int[] costs = {2, 2, 2, 3, 3, 0, 0, 4, 2, 4, 4, 3, 2, 0,
            0, 0, 2, 0, 2, 0, 3, 3, 4, 3, 4,
            0, 3, 2, 3, 0, 0, 33};
        for (int i = 0; i < two.length; i++) {
            int read = two[i].contains("1/2 1/2") ? 6 : two[i].contains("1/2") || two[i].contains("2/3") ? 3 : 0;
            takes(d, two[i], 3 + 2 + read + costs[i], Math.max(costs[i], read > 0 ? 0 : 1));
        }
        // What comes on the way does not count.
        takes(d, "(+ b b (- b) (- b))", 5 + 2 + 2 + 1 + 1 + 3 + 3 + 4, 1);
    }

    private static void whatDoesNotCountNumbers() {
        String d = "($define! b 18446744073709551616) ($define! f 1/3)";
        for (String text : new String[] {"(min b)", "(max b)", "(car (list b))", "(list b)", "($quote b)", "(zero? b)", "(even? b)", "(memoize b)", "(number? f)", "(min f)"}) {
            int reads = text.equals("(car (list b))") ? 4 + 1 + 1 : text.equals("($quote b)") ? 2 : text.startsWith("(memoize") ? 4 : 3;
            takes(d, text, reads, 1);
        }
        takes(d, "b", 0, 0);
        takes(d, "(eq? b b)", 5, 1);
        takes(d, "(=? b f)", 5, 1);
    }

    // ---- "pairs one by one, also those of a list that is read or made at once"

    private static void pairsOneByOne() {
        String d = "($define! l (list 1 2 3)) ($define! call (list list 1 2 3))" + E;
        String[] texts = {"(list 1 2 3)", "(append l l ())", "(reverse l)", "(map - l)", "(cons 1 2)", "(map list l l)", "(apply list l)", "($quote (a b c d))", "(eval call e)", "(make-capsule)",
            "(make-dynamic)", "(make-static)", "(call/cc list)", "($guard (error) list)"};
        int[] made = {4 + 3, 4 + 3 + 6, 2 + 1 + 3, 3 + 2 + 3 + 3, 3 + 2 + 1, 4 + 3 + 6 + 3, 3 + 2 + 1, 2 + 4, 3 + 2 + 3, 1 + 6,
            1 + 4, 1 + 4, 2 + 1 + 2 + 1, 3 + 1 + 1 + 1 + 1};
        for (int i = 0; i < texts.length; i++) {
            for (int left = 0; left <= made[i]; left++) {
                Tongue t = Tongue.left(left, d);
                t.run(texts[i]);
                Tongue.due("state of " + texts[i] + " with " + left, t.x.state(), left < made[i] ? 3 : 0);
                Tongue.due("made of " + texts[i] + " with " + left, t.x.made(), 30000);
            }
        }
    }

    // ---- "an environment 1, and 1 for each parent behind the first (at once)"

    private static void environments() {
        int[] cost = {1, 1, 2, 3, 4, 10};
        int[] parents = {0, 1, 2, 3, 4, 10};
        for (int i = 0; i < cost.length; i++) {
            takes(E, "(make-environment" + " e".repeat(parents[i]) + ")", 1 + 2 * parents[i] + cost[i], cost[i]);
        }
        takes("", "($let ())", 2 + 1, 1);
        takes("", "($let () 5)", 3 + 1, 1);
        takes("($define! f ($lambda ()))", "(f)", 1 + 1, 1);
        takes("($define! f ($vau #ignore #ignore))", "(f 1 2)", 3 + 1, 1);
        takes("", "(apply list ())", 3 + 2 + 1, 1);
        takes(E, "(apply list () e)", 4 + 3, 1);
    }

    // ---- "a binding that is new 1"

    private static void bindings() {
        takes("", "($define! a 1)", 3 + 1, 1);
        takes("($define! a 1)", "($define! a 2)", 3, 1);
        takes("", "($define! #ignore 1)", 3, 1);
        takes("", "($define! () ())", 3, 1);
        takes("", "($define! car 1)", 3 + 1, 1);
        takes(E, "($set! e a 1)", 4 + 1, 1);
        takes("($define! e (make-environment))", "($set! e a 1)", 4 + 1, 1);
        takes("($define! e (make-environment)) ($set! e a 1)", "($set! e a 2)", 4, 1);
        takes("", "($let ((a 1) (b 2)) a)", 3 + 2 + 4 + 1 + 2, 1);
        takes("", "($let ((a 1) (a 2)) a)", 3 + 2 + 4 + 1 + 1, 1);
        takes("($define! f ($lambda (a b . c)))", "(f 1 2 3)", 4 + 3 + 1 + 3, 1);
        takes("($define! f ($vau x e))", "(f 1 2 3)", 4 + 1 + 2, 1);
        takes("($define! f ($vau #ignore e))", "(f 1 2 3)", 4 + 1 + 1, 1);
        takes(E + "($define! (in out) (make-static))", "(in 1 e)", 3 + 2 + 1 + 1, 1);
        // What was bound ahead of the end is bound.
        Tongue t = Tongue.left(3 + 3 + 1, "($define! l (list 1 2 3))");
        t.run("($define! (a b c) l)");
        Tongue.due("state", t.x.state(), 3);
        Tongue.due("a is bound, b is not", t.x.bindings(), 3);
        Tongue.due("made", t.x.made(), 30000);
    }

    // ---- "an operative, applicative (also $lambda's: 2 in all), continuation, capsule, promise 1"

    private static void combiners() {
        takes("", "($vau x #ignore)", 3 + 1, 1);
        takes("", "($lambda x)", 2 + 2, 1);
        takes("", "(wrap $if)", 2 + 1 + 1, 1);
        takes("", "(unwrap car)", 2 + 1, 1);
        takes("", "(continuation->applicative root)", 2 + 1 + 1, 1);
        takes("", "(extend-continuation root car)", 3 + 2 + 1, 1);
        takes("", "(call/cc $quote)", 2 + 1 + 2, 1);
        takes("", "($lazy 1)", 2 + 1, 1);
        takes("", "(memoize 1)", 2 + 1 + 1, 1);
        takes("($define! (in is out) (make-capsule))", "(in 1)", 2 + 1 + 1, 1);
        takes("($define! (in is out) (make-capsule)) ($define! c (in 1))", "(is c)", 2 + 1, 1);
        takes("($define! (in is out) (make-capsule)) ($define! c (in 1))", "(out c)", 2 + 1, 1);
        takes("($define! (in out) (make-dynamic))", "(in 1 out)", 3 + 2, 1);
        takes("($define! p ($lazy 1))", "(force p)", 2 + 1, 1);
        takes("", "($current)", 1, 1);
        // $lambda's two: the first one counts though the second one has no room.
        Tongue t = Tongue.left(3, "");
        t.run("($lambda x)");
        Tongue.due("state", t.x.state(), 3);
        Tongue.due("made", t.x.made(), 30000);
    }

    private static void calls() {
        // The arguments' list, the environment, the bindings, one behind another.
        for (int left = 0; left < 8; left++) {
            Tongue t = Tongue.left(left, "($define! f ($lambda (a b) (show a) b))");
            t.run("(f 1 2)");
            Tongue.due("state with " + left, t.x.state(), 3);
            Tongue.due("made with " + left, t.x.made(), 30000);
            Tongue.due("nothing was shown with " + left, t.x.out(), 0);
        }
        Tongue t = Tongue.left(9, "($define! f ($lambda (a b) (show a) b))");
        t.run("(f 1 2)");
        Tongue.due("state", t.x.state(), 0);
        Tongue.due("told", t.told(), "2");
    }

    /** "What is passed through a guard counts: the applicative, the environment, then the list." */
    private static void passed() {
        String d = E + "($define! k #f) (guard-dynamic-extent (list (list root ($lambda (v d) (show 1) v))) ($lambda () (call/cc ($lambda (c) ($sequence ($set! e k c) 1)))) ())";
        for (int left = 0; left < 13; left++) {
            Tongue t = Tongue.left(left, d);
            t.run("(throw k 5)");
            Tongue.due("state with " + left, t.x.state(), left < 13 ? 3 : 0);
            Tongue.due("made with " + left, t.x.made(), 30000);
            // (show 1) itself takes one for its list.
            Tongue.due("out with " + left, t.x.out(), 0);
        }
        Tongue t = Tongue.left(13, d);
        t.run("(throw k 5)");
        Tongue.due("state", t.x.state(), 0);
        Tongue.due("told", t.told(), "5");
        Tongue.due("out", t.out(), "1");
    }

    // ---- "(The ground is not counted; what a run reads is.)"; "What was read of a text with a fault counts."

    private static void whatIsReadCounts() {
        String[] texts = {"", "a 1 #t", "(", "(a b", "(a b c)", "(a . b)", "(a b . c)", "(a (b) c)", "(a (b) c", "((a) (b) ", "() ()", "\"a\" )", "(a b) \"c\" 1/2 )", "(a . b c)", "((a) . b c)",
            "1/2 #foo 1/3", "#1=(a #1#)", "#1=(a . #1#) #1# #1=(b)", "(\"a\" . b \"c\")", "\"a\\q\"", "(a . 1/2", "(a . 1/2 1/2)", "#1=1/2", "#1=\"a\"", "\"abc", "(a) (b c \"d"};
        int[] made = {0, 0, 0, 0, 3, 1, 2, 4, 1, 2, 0, 2, 2 + 2 + 3, 0, 1,
            3, 2, 1, 2, 0, 3, 3, 0, 0, 0, 1};
        for (int i = 0; i < texts.length; i++) {
            Tongue t = new Tongue();
            t.run(texts[i], 0);
            Tongue.due("made of reading " + texts[i], t.x.made(), made[i]);
            Tongue.due("fuel of reading " + texts[i], t.x.fuel(), 0);
        }
    }

    // ---- "30000 of it at most ...: what would go beyond ends the run, and no run is begun any more."

    private static void theLastOfMade() {
        Tongue t = Tongue.left(0, "($define! a 1)");
        Tongue.due("what makes nothing goes on", t.run("a car 5 () #t -7"), 6);
        Tongue.due("state", t.x.state(), 0);
        Tongue.due("a fault is still told", t.run("a )"), -4);
        Tongue.due("an error, too", t.run("a nothing"), 1);
        Tongue.due("state", t.x.state(), 1);
        Tongue.due("the end of fuel, too", t.run("a a a", 2), 2);
        Tongue.due("state", t.x.state(), 2);
        Tongue.due("() makes nothing", t.run("()"), 1);
        Tongue.due("one more", t.run("a (a)"), 0);
        Tongue.due("state", t.x.state(), 3);
        Tongue.due("made", t.x.made(), 30000);
        Tongue.due("no run", t.run("a"), -1);
        Tongue u = Tongue.left(1, "");
        Tongue.due("the last one", u.run("(list)"), 1);
        Tongue.due("state", u.x.state(), 0);
        Tongue.due("made", u.x.made(), 30000);
        Tongue.due("runs are begun", u.run("1"), 1);
    }

    /** "(MADE may end a run while its text is read: nothing behind is read then.)" */
    private static void theEndOfMadeWhileReading() {
        Tongue t = Tongue.left(2, "($define! a 1)");
        int fuel = t.x.fuel();
        Tongue.due("nothing is evaluated", t.run("(show 1) a (b c) \"d\""), 0);
        Tongue.due("state", t.x.state(), 3);
        Tongue.due("out", t.x.out(), 0);
        Tongue.due("told", t.x.told(), 0);
        Tongue.due("fuel", t.x.fuel(), fuel);
        Tongue.due("made", t.x.made(), 30000);
        // A fault behind is not seen, one ahead is.
        for (String behind : new String[] {" )", " #foo", " (", " \"", " (a . b c)", "\u0001"}) {
            Tongue u = Tongue.left(2, "");
            Tongue.due("a fault behind the end" + behind, u.run("(a b c)" + behind), 0);
            Tongue.due("state", u.x.state(), 3);
        }
        Tongue v = Tongue.left(2, "");
        Tongue.due("a fault ahead of the end", v.run("(a b)) (c)"), -2 - 5);
        Tongue.due("state", v.x.state(), 0);
        Tongue.due("made", v.x.made(), 30000);
        Tongue.due("runs are begun", v.run("1"), 1);
        // A string, a number: at once.
        Tongue w = Tongue.left(2, "");
        Tongue.due("a string", w.run("1 \"12345678901234567\" )"), 0);
        Tongue.due("state", w.x.state(), 3);
        Tongue.due("made", w.x.made(), 29998);
        Tongue x = Tongue.left(2, "");
        Tongue.due("a number", x.run("1 1/2 )"), 0);
        Tongue.due("state", x.x.state(), 3);
        Tongue.due("made", x.x.made(), 29998);
        Tongue y = Tongue.left(2, "");
        Tongue.due("a number within a list", y.run("(a 1/2) )", 0), 0);
        Tongue.due("state, though there is no fuel", y.x.state(), 3);
        Tongue z = Tongue.left(0, "");
        Tongue.due("what can't stand counts nothing", z.run("(a . b \"c\")"), -2 - 7);
        Tongue.due("state", z.x.state(), 0);
    }

    // ---- fuel

    private static void theLastFuelOfARun() {
        String text = "(list 1 (car (list 2)) 3)";
        // Two, one, two and three, one: the last step is that of 3.
        int fuel = 2 + 1 + 2 + 3 + 1;
        for (int given = 0; given < fuel + 3; given++) {
            Tongue t = new Tongue();
            Tongue.due("data with " + given, t.run(text, given), given < fuel ? 0 : 1);
            Tongue.due("state with " + given, t.x.state(), given < fuel ? 2 : 0);
            Tongue.due("fuel with " + given, t.x.fuel(), Math.min(given, fuel));
            Tongue.due("told with " + given, t.told(), given < fuel ? "" : "(1 2 3)");
            Tongue.due("runs are begun behind it", t.run("1"), 1);
        }
    }

    private static Tongue fuelLeft(int left) {
        Tongue t = new Tongue();
        t.run("($while #t 1)", 30000 - left);
        Tongue.due("fuel left", 30000 - t.x.fuel(), left);
        Tongue.due("state", t.x.state(), 2);
        return t;
    }

    /** "30000 of fuel in all: what would go beyond ends the run, and no run is begun any more" */
    private static void theLastFuelInAll() {
        for (int left = 0; left < 6; left++) {
            Tongue t = fuelLeft(left);
            Tongue.due("data with " + left, t.run("1 2 3 4 5", 100), Math.min(left, 5));
            Tongue.due("state with " + left, t.x.state(), left < 5 ? 3 : 0);
            Tongue.due("fuel with " + left, t.x.fuel(), left < 5 ? 30000 : 30000 - left + 5);
            Tongue.due("told with " + left, t.told(), left < 5 ? "" : "5");
            Tongue.due("another run", t.run("", 100), left < 5 ? -1 : 0);
        }
        Tongue t = new Tongue();
        Tongue.due("all of it in one run", t.run("($while #t 1)", 30000), 0);
        Tongue.due("is the run's end", t.x.state(), 2);
        Tongue.due("then a run of nothing", t.run("", 30000), 0);
        Tongue.due("is fine", t.x.state(), 0);
        Tongue.due("a run of something", t.run("1", 30000), 0);
        Tongue.due("is the end", t.x.state(), 3);
        Tongue.due("for good", t.run("", 30000), -1);
    }

    /** "(A step that finds no fuel of the run is 2, also if there is none in all: runs are begun behind that, too.)" */
    private static void bothAtOnce() {
        for (int left = 0; left < 4; left++) {
            for (int given = 0; given < 7; given++) {
                Tongue t = fuelLeft(left);
                int done = t.run("1 2 3 4 5", given);
                int used = Math.min(left, Math.min(given, 5));
                Tongue.due("data with " + given + " of " + left, done, used);
                Tongue.due("state with " + given + " of " + left, t.x.state(), given <= left ? 2 : 3);
                Tongue.due("fuel with " + given + " of " + left, 30000 - t.x.fuel(), left - used);
                Tongue.due("a run behind it", t.run("", 0), given <= left ? 0 : -1);
            }
        }
    }

    private static void fuelOneByOne() {
        String d = E + "($define! call (list + 1 2 3 4))";
        // Six till the operands are taken, four for these.
        for (int given = 6; given < 10; given++) {
            Tongue t = Tongue.with(d);
            int before = t.x.fuel();
            t.run("(eval call e)", given);
            Tongue.due("state with " + given, t.x.state(), 2);
            Tongue.due("fuel with " + given, t.x.fuel() - before, given);
        }
        // The same at the end of all of it: 3 when the run has more, 2 when it has not.
        for (int left = 6; left < 10; left++) {
            for (int given = left; given < 12; given++) {
                Tongue t = Tongue.with(d);
                t.run("($while #t 1)", 30000 - left - t.x.fuel());
                t.run("(eval call e)", given);
                Tongue.due("state with " + given + " of " + left, t.x.state(), given == left ? 2 : 3);
                Tongue.due("fuel with " + given + " of " + left, t.x.fuel(), 30000);
            }
        }
    }

    /** "An ERROR (its message is kept) that no $guard takes ends the run." */
    private static void errorsEndARun() {
        Tongue t = new Tongue();
        Tongue.due("data", t.run("(show 1) (car 2) (show 3) (cdr 4)"), 1);
        Tongue.due("state", t.x.state(), 1);
        Tongue.due("told", t.told(), "bad arguments: car");
        Tongue.due("out", t.out(), "1");
        Tongue.due("one that is taken does not", t.run("(show 1) ($guard (car 2) ($lambda (m) (show 2))) (show 3)"), 3);
        Tongue.due("state", t.x.state(), 0);
        Tongue.due("out", t.out(), "123");
        Tongue.due("a $guard of another datum takes nothing", t.run("($guard 1 list) (car 2)"), 1);
        // The last step's error needs no more fuel than there is.
        t = new Tongue();
        t.run("nothing", 1);
        Tongue.due("state", t.x.state(), 1);
        t.run("nothing", 0);
        Tongue.due("state", t.x.state(), 2);
    }

    private static void endsLeaveWhatWasDone() {
        Tongue t = new Tongue();
        t.run("($define! a 1) ($define! b (list 1 2)) (list 3 4 5 6)", 10);
        Tongue.due("state", t.x.state(), 2);
        t.is("(list a b)", "(1 (1 2))");
        t.run("($define! a 2) (set-car! b 9) (car 5) ($define! a 3)");
        Tongue.due("state", t.x.state(), 1);
        t.is("(list a b)", "(2 (9 2))");
        t.run("($define! a 4) ($define! a 5) )");
        t.is("a", "2");
        Tongue u = Tongue.left(4, "($define! a 1)");
        u.run("($define! a 2) \"\" ($define! c 3)");
        Tongue.due("state", u.x.state(), 3);
        Tongue.due("bindings", u.x.bindings(), 2);
    }

    /** An error counts what was read, and the arguments' list; nothing is made, bound or put out. */
    private static void whatIsRefusedMakesNothing() {
        String d = E + "($define! h \"" + "h".repeat(500) + "\") ($define! l (list 1 2 3)) ($define! m (+ (expt 2 2047) (- (expt 2 2047) 1))) ($define! c (list root list))";
        String[] texts = {"(string-append h h \"1\")", "(string-append h 5)", "(make-environment e 5)", "(append l 5 l)", "(reverse 5)", "(map list l 5)", "(map list l ())", "(map $if l)",
            "(* m m)", "(+ m 1)", "(/ m 0)", "(expt m 10001)", "(wrap 5)", "(extend-continuation root 5)", "(extend-continuation root list 5)", "(continuation->applicative 5)", "(call/cc 5)",
            "(throw 5 1)", "(guard-dynamic-extent () 5 ())", "(guard-dynamic-extent l list ())", "(apply 5 ())", "(apply list () 5)", "(eval 1 5)", "(cons 1)", "(list-tail l 4)",
            "(symbol->string \"a\")", "(number->string 5 1)", "(string->symbol \"\")", "(string->number 5)", "(memoize)", "(make-capsule 1)", "(make-dynamic 1)", "(make-static 1)", "(write . 5)",
            "(newline 1)", "($lazy)", "($vau (a a) e 1)", "($vau a 5 1)", "($lambda 5)", "($let ((a 1)) . 5)", "($let ((a nothing)) 1)", "($let ((a 1) (b)) 1)", "($define! a nothing)",
            "($define! (a b) 5)", "($define! (a a) l)", "($set! 5 a 1)", "($set! e (a . ()) 1)", "($if 5 (write 1) (write 2))", "($cond (5 1))", "($guard (write 1) 5)", "(set-car! ($quote (1)) 5)"};
        int[] made = {4 + 2 + 3, 3 + 2, 3 + 2, 4 + 3, 2 + 1, 4 + 3, 4 + 3, 3 + 2,
            3 + 2, 3 + 2, 3 + 2, 3 + 2, 2 + 1, 3 + 2, 4 + 3, 2 + 1, 2 + 1,
            3 + 2, 4 + 3, 4 + 3, 3 + 2, 4 + 3, 3 + 2, 2 + 1, 3 + 2,
            2 + 2 + 1, 3 + 2, 2 + 1 + 1, 2 + 1, 1, 2 + 1, 2 + 1, 2 + 1, 1,
            2 + 1, 1, 4 + 2, 4, 2, 2 + 1 + 2, 3 + 1 + 2, 3 + 2 + 2 + 1, 3,
            3 + 2, 3 + 2, 4, 4 + 1, 4 + 2 + 2, 2 + 2, 3 + 2, 3 + 2 + 1 + 2};
        for (int i = 0; i < texts.length; i++) {
            Tongue t = Tongue.with(d);
            int madeBefore = t.x.made();
            int bindings = t.x.bindings();
            t.run(texts[i]);
            Tongue.due("state of " + texts[i], t.x.state(), 1);
            Tongue.due("made of " + texts[i], t.x.made() - madeBefore, made[i]);
            Tongue.due("bindings of " + texts[i], t.x.bindings(), bindings);
            Tongue.due("out of " + texts[i], t.x.out(), 0);
            t.is("(list l c (string-length h))", "((1 2 3) (#continuation #applicative) 500)");
        }
    }

    /** "the GLOBAL environment (a child of the GROUND's, ... and is there for all runs)" */
    private static void globalAndGround() {
        Tongue t = new Tongue();
        t.run("($define! a 1)");
        t.run("($define! f ($lambda () a))");
        t.is("(f)", "1");
        t.run("($define! a 2)");
        t.is("(f)", "2");
        t.is("($define! cons list) (list (cons 1 2) (iota 2 5) (list* 1 2))", "((1 2) (5 6) (1 . 2))");
        t.is("($define! $sequence 5) ($when #t 1 2)", "2");
        t.is("($define! list +) ($let* ((x 1) (y 2)) (list x y))", "3");
        t.is("($let-redirect (make-environment ($current)) ((z 3)) z)", "3");
        Tongue.due("bindings", t.x.bindings(), 5);
    }
}
