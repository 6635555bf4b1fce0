import java.math.BigInteger;

/** The boundary cases of the ground's APPLICATIVES: numbers and sorts of arguments, and each limit that is named. */
public final class EdgesOfApplicativesTest {
    private static final int ANY = 1000;
    /** Values of each sort, and their texts. */
    private static final String[] SORTS = {"()", "#t", "#inert", "#ignore", "5", "1/2", "\"s\"", "($quote y)", "(list 1 2)", "(cons 1 2)", "($current)", "$if",
        "car", "root", "(memoize 1)", "((car (make-capsule)) 1)"};

    public static void main(String[] args) {
        numbersOfArguments();
        numbersOfRightSorts();
        sortsOfArguments();
        sortsOfNumbers();
        argumentsOfTheirMakers();
        argumentsAreNoList();
        pairs();
        appends();
        listTails();
        divisions();
        halves();
        powers();
        emptySums();
        comparisonsOfNumbers();
        sameness();
        tenThousandComparisons();
        deepComparisons();
        mapRounds();
        stringsOfAThousand();
        names();
        radixes();
        wordsOfNumbers();
        forcing();
        writing();
        Tongue.close();
    }

    // ---- "another number or sort: bad arguments: NAME"

    private static void numbersOfArguments() {
        String[] names = {"eval", "wrap", "unwrap", "cons", "car", "cdr", "set-car!", "set-cdr!", "length", "reverse", "list-tail", "div", "mod", "numerator",
            "denominator", "abs", "floor", "ceiling", "truncate", "round", "expt", "zero?", "positive?", "negative?", "even?", "odd?", "not?", "eq?", "equal?",
            "null?", "pair?", "number?", "integer?", "boolean?", "symbol?", "string?", "inert?", "ignore?", "environment?", "combiner?", "operative?",
            "applicative?", "continuation?", "promise?", "call/cc", "throw", "continuation->applicative", "guard-dynamic-extent", "make-dynamic", "make-static",
            "make-capsule", "string-length", "symbol->string", "string->symbol", "string->number", "force", "memoize", "newline"};
        int[] due = {2, 1, 1, 2, 1, 1, 2, 2, 1, 1, 2, 2, 2, 1,
            1, 1, 1, 1, 1, 1, 2, 1, 1, 1, 1, 1, 1, 2, 2,
            1, 1, 1, 1, 1, 1, 1, 1, 1, 1, 1, 1,
            1, 1, 1, 1, 2, 1, 3, 0, 0,
            0, 1, 1, 1, 1, 1, 1, 0};
        for (int i = 0; i < names.length; i++) {
            refusesBut(names[i], due[i], due[i]);
        }
        refusesBut("extend-continuation", 2, 3);
        refusesBut("apply", 2, 3);
        refusesBut("number->string", 1, 2);
        refusesBut("-", 1, ANY);
        refusesBut("/", 1, ANY);
        refusesBut("min", 1, ANY);
        refusesBut("max", 1, ANY);
        refusesBut("map", 2, ANY);
        for (String name : new String[] {"<?", "<=?", ">?", ">=?", "=?"}) {
            refusesBut(name, 1, ANY);
        }
        for (String name : new String[] {"list", "append", "+", "*", "gcd", "lcm", "make-environment", "string-append", "write", "show"}) {
            Tongue t = new Tongue();
            t.run("(" + name + ")");
            Tongue.due("none of " + name, t.x.state(), 0);
        }
    }

    /** Too few and too many of what would be right are refused, whatever they are. */
    private static void refusesBut(String name, int least, int most) {
        for (int n = 0; n < 6; n++) {
            if (n < least || n > most) {
                for (String x : new String[] {"5", "()", "car", "root", "\"s\""}) {
                    Tongue.freshFails("(" + name + (" " + x).repeat(n) + ")", "bad arguments: " + name);
                }
            }
        }
        if (most < ANY) {
            Tongue.freshFails("(" + name + " 1".repeat(1000) + ")", "bad arguments: " + name);
        }
    }

    /** Arguments of the right sorts: as many as are due are taken; one less, or the last one once more, are refused. */
    private static void numbersOfRightSorts() {
        String[][] calls = {{"eval", "1", "($current)"}, {"wrap", "$if"}, {"unwrap", "car"}, {"cons", "1", "2"}, {"car", "(list 1)"}, {"cdr", "(list 1)"},
            {"set-car!", "(list 1)", "(list 1)"}, {"set-cdr!", "(list 1)", "(list 1)"}, {"length", "(list 1)"}, {"reverse", "(list 1)"}, {"list-tail", "(list 1)", "0"},
            {"div", "5", "2"}, {"mod", "5", "2"}, {"numerator", "1/2"}, {"denominator", "1/2"}, {"abs", "5"}, {"floor", "5"}, {"ceiling", "5"}, {"truncate", "5"}, {"round", "5"},
            {"expt", "2", "2"}, {"zero?", "0"}, {"positive?", "0"}, {"negative?", "0"}, {"even?", "0"}, {"odd?", "0"}, {"not?", "#t"}, {"eq?", "1", "1"}, {"equal?", "1", "1"},
            {"null?", "()"}, {"pair?", "()"}, {"number?", "()"}, {"integer?", "()"}, {"boolean?", "()"}, {"symbol?", "()"}, {"string?", "()"}, {"inert?", "()"}, {"ignore?", "()"},
            {"environment?", "()"}, {"combiner?", "()"}, {"operative?", "()"}, {"applicative?", "()"}, {"continuation?", "()"}, {"promise?", "()"}, {"call/cc", "list"},
            {"throw", "root", "root"}, {"continuation->applicative", "root"}, {"guard-dynamic-extent", "()", "list", "()"}, {"string-length", "\"a\""},
            {"symbol->string", "($quote a)"}, {"string->symbol", "\"a\""}, {"string->number", "\"1\""}, {"force", "1"}, {"memoize", "1"}};
        for (String[] call : calls) {
            takesSoMany("", call, call.length - 1, call.length - 1);
        }
        takesSoMany("", new String[] {"extend-continuation", "root", "list", "($current)"}, 2, 3);
        takesSoMany("", new String[] {"apply", "list", "()", "($current)"}, 2, 3);
        takesSoMany("", new String[] {"number->string", "5", "10"}, 1, 2);
        for (String name : new String[] {"make-dynamic", "make-static", "make-capsule", "newline"}) {
            Tongue.freshFails("(" + name + " ())", "bad arguments: " + name);
        }
        String d = "($define! (din dout) (make-dynamic)) ($define! (sin sout) (make-static)) ($define! (cin is cout) (make-capsule))";
        takesSoMany(d, new String[] {"din", "list", "list"}, 2, 2);
        takesSoMany(d, new String[] {"sin", "($current)", "($current)"}, 2, 2);
        takesSoMany(d, new String[] {"cin", "1"}, 1, 1);
        takesSoMany(d, new String[] {"is", "1"}, 1, 1);
        takesSoMany(d, new String[] {"cout", "(cin 1)"}, 1, 1);
        Tongue.with(d).fails("(din 1 ($lambda () (dout 1)))", "bad arguments: dynamic");
        Tongue.with(d).fails("(eval ($quote (sout 1)) (sin 1 ($current)))", "bad arguments: static");
    }

    /** Least to most of the arguments are taken, other numbers of them refused. */
    private static void takesSoMany(String definitions, String[] call, int least, int most) {
        for (int n = 0; n <= most + 2; n++) {
            StringBuilder text = new StringBuilder("(" + call[0]);
            for (int i = 1; i <= n; i++) {
                text.append(' ').append(call[Math.min(i, call.length - 1)]);
            }
            Tongue t = Tongue.with(definitions);
            t.run(text + ")");
            Tongue.due("state of " + text + ")", t.x.state(), n < least || n > most ? 1 : 0);
            if (n < least || n > most) {
                Tongue.due("message of " + text + ")", t.told().startsWith("bad arguments: ") ? 1 : 0, 1);
            }
        }
    }

    /** Of each argument the sorts that are right, as places in SORTS; all else is refused. */
    private static void sortsOfArguments() {
        sorts("(eval 5 X)", "eval", 10);
        sorts("(wrap X)", "wrap", 11, 12);
        sorts("(unwrap X)", "unwrap", 12);
        sorts("(make-environment X)", "make-environment", 10);
        sorts("(make-environment ($current) X)", "make-environment", 10);
        sorts("(make-environment X ($current))", "make-environment", 10);
        sorts("(car X)", "car", 8, 9);
        sorts("(cdr X)", "cdr", 8, 9);
        sorts("(set-car! X 1)", "set-car!", 8, 9);
        sorts("(set-cdr! X 1)", "set-cdr!", 8, 9);
        sorts("(length X)", "length", 0, 8);
        sorts("(reverse X)", "reverse", 0, 8);
        sorts("(append X ())", "append", 0, 8);
        sorts("(append () X ())", "append", 0, 8);
        sorts("(list-tail X 0)", "list-tail", 0, 8);
        sorts("(list-tail ($quote (1 2 3 4 5 6)) X)", "list-tail", 4);
        sorts("(not? X)", "not?", 1);
        sorts("(apply X ())", "apply", 12);
        sorts("(apply list () X)", "apply", 10);
        sorts("(map X ())", "map", 12);
        sorts("(map cons X X)", "map", 0, 8);
        sorts("(call/cc X)", "call/cc", 11, 12);
        sorts("(throw X 1)", "throw", 13);
        sorts("(continuation->applicative X)", "continuation->applicative", 13);
        sorts("(extend-continuation X list)", "extend-continuation", 13);
        sorts("(extend-continuation root X)", "extend-continuation", 12);
        sorts("(extend-continuation root list X)", "extend-continuation", 10);
        sorts("(guard-dynamic-extent () X ())", "guard-dynamic-extent", 11, 12);
        sorts("(guard-dynamic-extent X list ())", "guard-dynamic-extent", 0);
        sorts("(guard-dynamic-extent () list X)", "guard-dynamic-extent", 0);
        sorts("(guard-dynamic-extent (list (list X list)) list ())", "guard-dynamic-extent", 13);
        sorts("(guard-dynamic-extent (list (list root X)) list ())", "guard-dynamic-extent", 12);
        sorts("(guard-dynamic-extent () list (list (list X list)))", "guard-dynamic-extent", 13);
        sorts("(guard-dynamic-extent () list (list (list root X)))", "guard-dynamic-extent", 12);
        sorts("(string-append X)", "string-append", 6);
        sorts("(string-append \"\" X)", "string-append", 6);
        sorts("(string-length X)", "string-length", 6);
        sorts("(symbol->string X)", "symbol->string", 7);
        sorts("(string->symbol X)", "string->symbol", 6);
        sorts("(string->number X)", "string->number", 6);
        sorts("(number->string X)", "number->string", 4, 5);
        sorts("(number->string X 5)", "number->string", 4, 5);
        sorts("(number->string 5 X)", "number->string", 4);
        for (String f : new String[] {"(list X X)", "(cons X X)", "(eval ($quote 1) ($current))", "(append X)", "(append () X)", "(apply ($lambda x 1) X)", "(throw root X)",
            "(force X)", "(memoize X)", "(write X)", "(show X)", "(eq? X X)", "(equal? X X)", "(set-car! (list 1) X)", "(set-cdr! (list 1) X)"}) {
            sorts(f, "none", everySort());
        }
    }

    private static int[] everySort() {
        int[] all = new int[SORTS.length];
        for (int i = 0; i < all.length; i++) {
            all[i] = i;
        }
        return all;
    }

    private static void sorts(String text, String name, int... right) {
        for (int i = 0; i < SORTS.length; i++) {
            boolean fits = false;
            for (int j : right) {
                fits |= i == j;
            }
            Tongue t = new Tongue();
            t.run(text.replace("X", SORTS[i]));
            // What is called for its own sake may want other arguments: its error is no "bad arguments: NAME" then.
            boolean refused = t.x.state() == 1 && t.told().equals("bad arguments: " + name);
            Tongue.due(text + " with " + SORTS[i], refused ? 0 : 1, fits ? 1 : 0);
            Tongue.due("no end of " + text, t.x.state() < 2 ? 1 : 0, 1);
        }
    }

    private static void sortsOfNumbers() {
        for (String f : new String[] {"+", "*", "-", "/", "min", "max", "<?", "<=?", ">?", ">=?", "=?"}) {
            sorts("(" + f + " X)", f, 4, 5);
            sorts("(" + f + " 1 X)", f, 4, 5);
            sorts("(" + f + " X 1)", f, 4, 5);
            sorts("(" + f + " 1 2 X)", f, 4, 5);
        }
        for (String f : new String[] {"numerator", "denominator", "abs", "floor", "ceiling", "truncate", "round", "zero?", "positive?", "negative?"}) {
            sorts("(" + f + " X)", f, 4, 5);
        }
        for (String f : new String[] {"even?", "odd?", "gcd", "lcm"}) {
            sorts("(" + f + " X)", f, 4);
        }
        for (String f : new String[] {"div", "mod", "gcd", "lcm"}) {
            sorts("(" + f + " 1 X)", f, 4);
            sorts("(" + f + " X 1)", f, 4);
        }
        sorts("(expt X 2)", "expt", 4, 5);
        sorts("(expt 2 X)", "expt", 4);
    }

    /** "wrong arguments of theirs: bad arguments: dynamic, static"; "else bad arguments: capsule" */
    private static void argumentsOfTheirMakers() {
        String d = "($let (((in out) (make-dynamic))) ";
        String s = "($let (((in out) (make-static))) ";
        String c = "($let (((in is out) (make-capsule))) ";
        sorts(d + "(in 1 X))", "dynamic", 11, 12);
        sorts(d + "(in X ($lambda () 1)))", "none", everySort());
        sorts(s + "(in 1 X))", "static", 10);
        sorts(c + "(out X))", "capsule");
        for (int n = 0; n < 5; n++) {
            String args = " 5".repeat(n);
            Tongue.freshFails(d + "(out" + args + "))", n == 0 ? "unbound: dynamic" : "bad arguments: dynamic");
            Tongue.freshFails(d + "(in" + args + "))", "bad arguments: dynamic");
            Tongue.freshFails(d + "(in" + " car".repeat(n == 2 ? 3 : n) + "))", "bad arguments: dynamic");
            Tongue.freshFails(s + "(out" + args + "))", n == 0 ? "unbound: static" : "bad arguments: static");
            Tongue.freshFails(s + "(in" + args + "))", "bad arguments: static");
            Tongue.freshFails(s + "(in" + " ($current)".repeat(n == 2 ? 3 : n) + "))", "bad arguments: static");
            Tongue.freshFails(c + "(out" + args + "))", "bad arguments: capsule");
            if (n != 1) {
                Tongue.freshFails(c + "(in" + args + "))", "bad arguments: capsule");
                Tongue.freshFails(c + "(is" + args + "))", "bad arguments: capsule");
            }
        }
        Tongue.fresh(d + "(in 5 out))", "5");
        Tongue.fresh(d + "(in 5 ($vau x e (list x (out)))))", "(() 5)");
        Tongue.fresh(s + "(eval (list out) (in 5 ($current))))", "5");
        Tongue.fresh(c + "(list (is (in 5)) (out (in 5)) (is 5) (is (in (in 5))) (is (out (in (in 5))))))", "(#t 5 #f #t #t)");
        // One maker's are not another's.
        String two = "($let (((in is out) (make-capsule)) ((in2 is2 out2) (make-capsule))) ";
        Tongue.fresh(two + "(list (is2 (in 5)) (is (in2 5))))", "(#f #f)");
        Tongue.freshFails(two + "(out2 (in 5)))", "bad arguments: capsule");
        // As they stand, without a list: their numbers are wrong.
        Tongue.freshFails(c + "((unwrap in) . 5))", "bad arguments: capsule");
        Tongue.freshFails(c + "(apply is 5))", "bad arguments: capsule");
        Tongue.freshFails(d + "(apply out 5))", "bad arguments: dynamic");
        Tongue.freshFails(s + "((unwrap in) 1 . 2))", "bad arguments: static");
    }

    /** Combined with what is no list as it stands, each of them says so. */
    private static void argumentsAreNoList() {
        for (String f : new String[] {"eval", "wrap", "make-environment", "cons", "car", "list", "append", "length", "+", "-", "div", "abs", "expt", "max", "=?", "zero?", "not?", "eq?",
            "null?", "promise?", "apply", "map", "call/cc", "throw", "guard-dynamic-extent", "make-capsule", "string-append", "number->string", "force", "memoize", "write",
            "show", "newline", "error"}) {
            Tongue.freshFails("(apply " + f + " 5)", "bad arguments: " + f);
            Tongue.freshFails("(apply " + f + " ($quote (1 . 2)))", "bad arguments: " + f);
            Tongue.freshFails("((unwrap " + f + ") . 5)", "bad arguments: " + f);
            Tongue.freshFails("((unwrap " + f + ") . #0=(1 . #0#))", "bad arguments: " + f);
            Tongue.freshFails("(" + f + " . 5)", "bad operands: 5");
        }
    }

    // ---- lists

    private static void pairs() {
        Tongue t = Tongue.with("($define! p (cons 1 2)) ($define! f ($quote (1 2)))");
        t.is("(list (set-car! p 3) p (set-cdr! p p) (car (cdr (cdr p))))", "(#inert #0=(3 . #0#) #inert 3)");
        t.fails("(set-car! f 5)", "bad arguments: set-car!");
        t.fails("(set-cdr! (cdr f) 5)", "bad arguments: set-cdr!");
        t.is("f", "(1 2)");
        t.is("(eq? f (car (list f)))", "#t");
        t.is("(eq? (cons 1 2) (cons 1 2))", "#f");
        // "the arguments' own list"
        t.is("($define! l (list 1 2)) (list (eq? l (apply list l)) (eq? l (eval (cons (unwrap list) l) ($current))) (eq? l (apply ($lambda x x) l)))", "(#t #t #t)");
        t.is("(eq? l (eval (cons list l) ($current)))", "#f");
    }

    /** "new pairs for all but the last, which may be any value; of none ()" */
    private static void appends() {
        Tongue t = Tongue.with("($define! l (list 1 2))");
        t.is("(append)", "()");
        for (String x : new String[] {"5", "()", "(1 . 2)", "(1 2)", "\"s\""}) {
            t.is("(append ($quote " + x + "))", x);
            t.is("(append () () ($quote " + x + "))", x);
        }
        t.is("(append l 5)", "(1 2 . 5)");
        t.is("(append l ($quote (3 . 4)))", "(1 2 3 . 4)");
        t.is("(list (eq? l (append l)) (eq? l (append () l)) (eq? l (append l ())) (eq? l (list-tail (append l l) 2)) (eq? l (append l () ())))", "(#t #t #f #t #f)");
        t.fails("(append 5 l)", "bad arguments: append");
        t.fails("(append l 5 l)", "bad arguments: append");
        t.fails("(append ($quote (1 . 2)) ())", "bad arguments: append");
        t.is("l", "(1 2)");
        t.is("(list (reverse ()) (reverse l) (eq? l (reverse (reverse l))) l)", "(() (2 1) #f (1 2))");
        t.is("(list (length ()) (length (list ())) (length l))", "(0 1 2)");
    }

    /** "l a list, n from 0 to its length" */
    private static void listTails() {
        Tongue t = Tongue.with("($define! l ($quote (a b c)))");
        String[] rests = {"(a b c)", "(b c)", "(c)", "()"};
        for (int n = 0; n < 4; n++) {
            t.is("(list-tail l " + n + ")", rests[n]);
        }
        for (String n : new String[] {"-1", "4", "1/2", "1000", "-9223372036854775808", "9223372036854775807", "4294967296", "4294967297", "18446744073709551616",
            "-18446744073709551616"}) {
            t.fails("(list-tail l " + n + ")", "bad arguments: list-tail");
        }
        t.is("(list-tail () 0)", "()");
        t.fails("(list-tail () 1)", "bad arguments: list-tail");
        t.fails("(list-tail 5 0)", "bad arguments: list-tail");
        t.fails("(list-tail ($quote (1 . 2)) 1)", "bad arguments: list-tail");
        t.is("(eq? l (list-tail l 0))", "#t");
        t.is("(list-tail l 6/3)", "(c)");
    }

    // ---- numbers

    private static void divisions() {
        Tongue t = new Tongue();
        int[][] pairs = {{7, 2}, {-7, 2}, {7, -2}, {-7, -2}, {6, 2}, {-6, 2}, {6, -2}, {-6, -2}, {0, 5}, {0, -5}, {1, 5}, {-1, 5}, {1, -5}, {-1, -5}};
        for (int[] p : pairs) {
            t = new Tongue();
            t.is("(list (div " + p[0] + " " + p[1] + ") (mod " + p[0] + " " + p[1] + "))", "(" + Math.floorDiv(p[0], p[1]) + " " + Math.floorMod(p[0], p[1]) + ")");
        }
        for (String text : new String[] {"(div 5 0)", "(mod 5 0)", "(div 0 0)", "(mod 0 0)", "(div (expt 2 100) 0)", "(/ 0)", "(/ 5 0)", "(/ 0 0)", "(/ 1/2 0)", "(/ 6 2 0)",
            "(/ 6 0 2)", "(/ (expt 2 100) 0)"}) {
            t.fails(text, "divided by zero");
        }
        t.is("(list (/ 0 5) (/ 0 -1/2) (- 0) (/ 1) (/ -1) (- 5 5) (/ 5 5))", "(0 0 0 1 -1 0 1)");
        t.fails("(div 0 1/2)", "bad arguments: div");
        t.fails("(mod 1/2 0)", "bad arguments: mod");
        t.is("(list (div -9223372036854775808 -1) (mod -9223372036854775808 -1) (div -9223372036854775808 1) (- -9223372036854775808) (abs -9223372036854775808))",
            "(9223372036854775808 0 -9223372036854775808 9223372036854775808 9223372036854775808)");
        t.is("(list (* -9223372036854775808 -1) (/ -9223372036854775808 -1) (* 3037000500 3037000500) (* -3037000500 3037000500) (* -2147483648 2147483648))",
            "(9223372036854775808 9223372036854775808 9223372037000250000 -9223372037000250000 -4611686018427387904)");
        t.is("(list (+ 9223372036854775807 1) (- -9223372036854775808 1) (+ -9223372036854775808 -1) (- 9223372036854775807 -1) (- 9223372036854775808 1))",
            "(9223372036854775808 -9223372036854775809 -9223372036854775809 9223372036854775808 9223372036854775807)");
    }

    /** "round (to the even one of two)" */
    private static void halves() {
        for (int n = -9; n <= 9; n += 2) {
            int down = Math.floorDiv(n, 2);
            int even = down % 2 == 0 ? down : down + 1;
            String x = n + "/2";
            Tongue.fresh("(list (floor " + x + ") (ceiling " + x + ") (truncate " + x + ") (round " + x + "))", "(" + down + " " + (down + 1) + " " + n / 2 + " " + even + ")");
        }
        for (int n = -8; n <= 8; n++) {
            int down = Math.floorDiv(n, 3);
            boolean whole = n % 3 == 0;
            int near = Math.floorMod(n, 3) == 2 ? down + 1 : down;
            String x = n + "/3";
            Tongue.fresh("(list (floor " + x + ") (ceiling " + x + ") (truncate " + x + ") (round " + x + "))",
                "(" + down + " " + (whole ? down : down + 1) + " " + n / 3 + " " + near + ")");
        }
        // Close to a half, on either side.
        Tongue.fresh("(list (round 49999999999999999999/100000000000000000000) (round 50000000000000000001/100000000000000000000))", "(0 1)");
        Tongue.fresh("(list (round 149999999999999999999/100000000000000000000) (round -50000000000000000001/100000000000000000000))", "(1 -1)");
        Tongue.fresh("(list (round 9223372036854775807/2) (floor -9223372036854775809/2))", "(4611686018427387904 -4611686018427387905)");
    }

    /** "expt x n (n an integer 0 .. 10000; 0 to the power 0 is 1)" */
    private static void powers() {
        for (String x : new String[] {"0", "1", "-1", "2", "1/2", "-7/3", "123456789012345678901234567890"}) {
            Tongue.fresh("(expt " + x + " 0)", "1");
            Tongue.fresh("(expt " + x + " 1)", x);
            for (String n : new String[] {"-1", "10001", "1/2", "-10000", "18446744073709551616", "-18446744073709551616", "9223372036854775807", "4294967296"}) {
                Tongue.freshFails("(expt " + x + " " + n + ")", "bad arguments: expt");
            }
        }
        Tongue.fresh("(list (expt 0 10000) (expt 1 10000) (expt -1 10000) (expt -1 9999) (expt 0 1))", "(0 1 1 -1 0)");
        Tongue.fresh("(list (expt 2/3 2) (expt -2/3 3) (expt -1/2 10) (expt 10 3))", "(4/9 -8/27 1/1024 1000)");
    }

    private static void emptySums() {
        Tongue t = new Tongue();
        t.is("(list (+) (*) (gcd) (lcm))", "(0 1 0 1)");
        t.is("(list (+ 5) (* 5) (gcd 5) (lcm 5) (- 5) (/ 5) (min 5) (max 5))", "(5 5 5 5 -5 1/5 5 5)");
        t.is("(list (+ -5) (* -5) (gcd -5) (lcm -5) (- -5) (/ -5) (abs -5))", "(-5 -5 5 5 5 -1/5 5)");
        t.is("(list (gcd 0) (gcd 0 0) (gcd 0 -7) (gcd -4 6) (lcm 0) (lcm 0 0) (lcm 0 -7) (lcm -4 6) (lcm -1) (lcm 1 -1))", "(0 0 7 2 0 0 0 12 1 1)");
        t.is("(list (min 1 3 2) (max 3 1 2) (min 2 1 3 2) (max 2 3 1 2) (min 1/3 1/2 2/5))", "(1 3 1 3 1/3)");
        t.is("(list (min 1/2 1/3) (max 1/2 1/3) (min 2 2) (max -1 -1/2 -2) (min 3 2 1 2 3))", "(1/3 1/2 2 -1/2 1)");
    }

    /** "(each with the next one; #t of one)" */
    private static void comparisonsOfNumbers() {
        String[] names = {"<?", "<=?", ">?", ">=?", "=?"};
        String[] texts = {"1", "1 2", "2 1", "1 1", "1 2 3", "1 2 2", "3 2 1", "2 2 1", "1 3 2", "1 1 1", "1 2 1", "1/2 2/3", "-1/2 -2/3", "0 -0", "1 1/1"};
        String[] due = {"ttttt", "ttfff", "ffttf", "ftftt", "ttfff", "ftfff", "ffttf", "ffftf", "fffff", "ftftt", "fffff", "ttfff", "ffttf", "ftftt", "ftftt"};
        for (int i = 0; i < texts.length; i++) {
            for (int j = 0; j < names.length; j++) {
                Tongue.fresh("(" + names[j] + " " + texts[i] + ")", "#" + due[i].charAt(j));
            }
        }
        // All are looked at, though the first ones decide.
        Tongue.freshFails("(<? 2 1 #t)", "bad arguments: <?");
        Tongue.fresh("(list (<? 9223372036854775807 9223372036854775808) (<? -9223372036854775809 -9223372036854775808) (=? 9223372036854775808 (+ 9223372036854775807 1)))",
            "(#t #t #t)");
    }

    // ---- eq?, equal?

    private static void sameness() {
        String[] values = {"()", "#t", "#f", "#inert", "#ignore", "5", "-5", "1/2", "18446744073709551616", "($quote a)", "($quote b)"};
        for (int i = 0; i < values.length; i++) {
            for (int j = 0; j < values.length; j++) {
                String want = i == j ? "(#t #t)" : "(#f #f)";
                Tongue.fresh("(list (eq? " + values[i] + " " + values[j] + ") (equal? " + values[i] + " " + values[j] + "))", want);
            }
        }
        String[] made = {"\"a\"", "(list 1)", "($quote (1))", "(make-environment)", "($lambda ())", "($vau () e)", "($lazy 1)", "(memoize 1)", "((car (make-capsule)) 1)",
            "(wrap $if)", "(extend-continuation root car)", "(call/cc ($lambda (k) k))"};
        for (int i = 0; i < made.length; i++) {
            // Two of them are never the same one; strings and pairs may be equal.
            Tongue.fresh("(list (eq? " + made[i] + " " + made[i] + ") (equal? " + made[i] + " " + made[i] + "))", i < 3 ? "(#f #t)" : "(#f #f)");
            Tongue.fresh("($define! x " + made[i] + ") (list (eq? x x) (equal? x x))", "(#t #t)");
        }
        Tongue t = new Tongue();
        t.is("(list (eq? car car) (eq? car cdr) (eq? $if $if) (eq? (unwrap car) (unwrap car)) (eq? car (wrap (unwrap car))) (eq? root root))", "(#t #f #t #t #f #t)");
        t.is("(list (equal? \"\" \"\") (equal? \"a\" \"b\") (equal? \"a\" \"ab\") (equal? \"a\" ($quote a)) (equal? \"5\" 5))", "(#t #f #f #f #f)");
        t.is("(list (equal? ($quote (1 2)) ($quote (1 2))) (equal? ($quote (1 2)) ($quote (1 3))) (equal? ($quote (1 2)) ($quote (1 . 2))) (equal? ($quote (1)) ()))",
            "(#t #f #f #f)");
        t.is("(list (eq? 1/2 2/4) (eq? (+ 1/2 1/2) 1) (eq? (expt 2 64) 18446744073709551616) (eq? -0 0))", "(#t #t #t #t)");
    }

    /** "at most 10000 comparisons of two values, pairs among them, cars ahead of cdrs, else bad arguments, whatever they are" */
    private static void tenThousandComparisons() {
        String d = "($define! a (list 1 1 1 1 1 1 1 1 1 1)) ($define! b (append a a a a a a a a a a)) ($define! t (append b b b b b b b b b b))"
            + " ($define! ahead ($lambda (x) (append t t t t (cdr t) x)))";
        // Ahead of x are 4999 pairs: so many comparisons of pairs, as many of cars; the 9999th is that of x.
        Tongue t = Tongue.with(d);
        t.is("(equal? (ahead ()) (ahead ()))", "#t");
        t.is("(equal? (ahead 2) (ahead 3))", "#f");
        // The 10000th is that of the 5000th cars: it may say no, but not go on.
        Tongue u = Tongue.with(d);
        u.is("(equal? (ahead (list 2)) (ahead (list 3)))", "#f");
        u.fails("(equal? (ahead (list 2)) (ahead (list 2)))", "bad arguments: equal?");
        // The 10001st, behind 5000 pairs, is not made, though it would say no.
        Tongue v = Tongue.with(d);
        v.fails("(equal? (ahead (cons 1 2)) (ahead (cons 1 3)))", "bad arguments: equal?");
        v.fails("(equal? (ahead (list 1)) (ahead (list 1 2)))", "bad arguments: equal?");
        // Cars ahead of cdrs: a difference in the first car is found, one behind is not.
        Tongue w = Tongue.with("($define! c ($quote #0=(1 . #0#))) ($define! d ($quote #1=(1 . #1#)))");
        w.fails("(equal? c d)", "bad arguments: equal?");
        w.fails("(equal? c c)", "bad arguments: equal?");
        w.is("(equal? (cons 1 c) (cons 2 d))", "#f");
        w.fails("(equal? (cons c 1) (cons d 2))", "bad arguments: equal?");
        w.is("(equal? (cons c 1) 5)", "#f");
        w.is("(eq? c c)", "#t");
        w.is("(equal? ($quote #0=(1 2 . #0#)) ($quote #1=(1 3 . #1#)))", "#f");
        w.fails("(equal? ($quote #0=(1 . #0#)) ($quote #1=(1 1 . #1#)))", "bad arguments: equal?");
        // In cars as in cdrs.
        w.fails("(equal? ($quote #0=(#0#)) ($quote #1=(#1#)))", "bad arguments: equal?");
    }

    /** Deep cars: what stands in the cdrs is compared when they are done. */
    private static void deepComparisons() {
        String d = "($define! nest ($lambda (n x y) ($if (zero? n) x (nest (- n 1) (list x y) y))))";
        for (int n : new int[] {1, 2, 100, 127, 128, 129, 255, 256, 257, 500, 600}) {
            Tongue t = Tongue.with(d);
            t.is("(equal? (nest " + n + " 1 2) (nest " + n + " 1 2))", "#t");
            t = Tongue.with(d);
            t.is("(equal? (nest " + n + " 1 2) (nest " + n + " 3 2))", "#f");
            t = Tongue.with(d);
            t.is("(equal? (list (nest " + n + " 1 2) 7) (list (nest " + n + " 1 2) 8))", "#f");
            t = Tongue.with(d);
            t.is("(equal? (nest " + n + " 1 2) (nest " + n + " 1 3))", "#f");
            t = Tongue.with(d);
            t.is("(equal? (nest " + n + " (list 1 2) 5) (nest " + n + " (list 1 3) 5))", "#f");
        }
    }

    // ---- map

    private static void mapRounds() {
        Tongue t = Tongue.with("($define! e ($current))");
        t.is("(map list ())", "()");
        t.is("(map list () () ())", "()");
        t.is("(map list ($quote (1)))", "((1))");
        t.is("(map list ($quote (1 2)) ($quote (3 4)))", "((1 3) (2 4))");
        for (String text : new String[] {"(map list)", "(map)", "(map list () ($quote (1)))", "(map list ($quote (1)) ())", "(map list ($quote (1 2)) ($quote (1)))",
            "(map list ($quote (1)) ($quote (1 2)))", "(map list 5)", "(map list ($quote (1 . 2)))", "(map list () 5)", "(map list ($quote #0=(1 . #0#)))", "(map $quote ($quote (1)))"}) {
            t.fails(text, "bad arguments: map");
        }
        // How many rounds is known at first; a pair is taken when its round begins.
        t.is("($define! l (list 1 2)) (map ($lambda (x) ($sequence (set-cdr! (cdr l) (list 3)) x)) l)", "(1 2)");
        t.is("($define! l (list 1 2 3)) (map ($lambda (x) ($sequence (set-car! (cddr l) 9) x)) l)", "(1 2 9)");
        t.fails("($define! l (list 1 2 3)) (map ($lambda (x) ($sequence (show x) (set-cdr! (cdr l) ()) x)) l)", "bad arguments: map");
        Tongue.due("the rounds that there were", t.out(), "12");
        t.fails("($define! l (list 1 2)) (map ($lambda (x) ($sequence (set-cdr! l 5) x)) l l)", "mismatch");
        t.is("($define! l (list 1 2)) (map ($lambda (x y) ($sequence (set-cdr! l 5) x)) l l)", "(1 2)");
        t.fails("($define! l (list 1 2 3)) (map ($lambda (x) ($sequence (show x) (set-cdr! (cdr l) 5) x)) l)", "bad arguments: map");
        Tongue.due("the rounds that there were", t.out(), "12");
        t.is("(map (wrap ($vau x d (eq? d e))) ($quote (1 2)))", "(#t #t)");
        // f is combined below: what the lists have is not evaluated.
        t.is("(map ($lambda (x) x) ($quote (a (b))))", "(a (b))");
        t.is("(map (wrap (wrap $quote)) (list ($quote (list))))", "(())");
    }

    // ---- strings

    /** "string-append s... (at most 1000 bytes)" */
    private static void stringsOfAThousand() {
        Tongue t = Tongue.with("($define! h \"" + "h".repeat(500) + "\")");
        t.is("(string-length (string-append h h))", "1000");
        t.fails("(string-append h h \"1\")", "bad arguments: string-append");
        t.fails("(string-append \"1\" h h)", "bad arguments: string-append");
        t.is("(string-length (string-append h \"" + "i".repeat(500) + "\" \"\"))", "1000");
        t.fails("(string-append h h h h h h)", "bad arguments: string-append");
        t.is("(list (string-append) (string-append \"\") (string-append \"\" \"\"))", "(\"\" \"\" \"\")");
        t.is("(eq? h (string-append h))", "#f");
        // Strings that are read may be longer.
        String z = "z".repeat(1001);
        t.is("(string-length \"" + z + "\")", "1001");
        t.fails("(string-append \"" + z + "\")", "bad arguments: string-append");
        t.is("(string-length \"" + "z".repeat(4000) + "\")", "4000");
        t.fails("(string-append h h h ($quote a))", "bad arguments: string-append");
    }

    /** "string->symbol s (1 .. 40 bytes 33 .. 126 but ( ) \" ; , and such a SYMBOL as READING has it ...)" */
    private static void names() {
        Tongue t = new Tongue();
        for (int n : new int[] {1, 2, 39, 40}) {
            t.is("(string->symbol \"" + "n".repeat(n) + "\")", "n".repeat(n));
        }
        for (int n : new int[] {0, 41, 42, 1000}) {
            t.fails("(string->symbol \"" + "n".repeat(n) + "\")", "bad arguments: string->symbol");
        }
        for (int c = 0; c < 256; c++) {
            Tongue u = new Tongue();
            String s = c == '"' || c == '\\' ? "\\" + (char) c : "" + (char) c;
            boolean right = c >= 33 && c <= 126 && "()\";".indexOf(c) < 0;
            if (right) {
                u.is("(string->symbol \"a" + s + "\")", "a" + (char) c);
            } else {
                u.fails("(string->symbol \"a" + s + "\")", "bad arguments: string->symbol");
            }
            boolean alone = right && c != '.' && c != '#' && (c < '0' || c > '9');
            u.run("(string->symbol \"" + s + "\")");
            Tongue.due("byte " + c + " alone", u.x.state(), alone ? 0 : 1);
        }
        for (String word : new String[] {".", "#t", "#f", "#inert", "#ignore", "#1=", "#1#", "#foo", "5", "-5", "1/2", "-1/2", "1/0", "00", "1/00"}) {
            t.fails("(string->symbol \"" + word + "\")", "bad arguments: string->symbol");
        }
        for (String word : new String[] {"..", "-", "+5", "1/", "/1", "-/1", "1.0", "a#", "--5", "1/2/3", "5a"}) {
            t.is("(string->symbol \"" + word + "\")", word);
            t.is("(symbol->string ($quote " + word + "))", "\"" + word + "\"");
        }
        // Digits that are too great are no symbol either; forty bytes can't be such.
        t.fails("(string->symbol \"" + "9".repeat(40) + "\")", "bad arguments: string->symbol");
        String longName = "s".repeat(41);
        t.is("(string-length (symbol->string ($quote " + longName + ")))", "41");
        t.fails("(string->symbol (symbol->string ($quote " + longName + ")))", "bad arguments: string->symbol");
    }

    /** "(of radix n, 2 .. 36, small letters; of a fraction both parts)" */
    private static void radixes() {
        for (int radix = 2; radix <= 36; radix++) {
            for (long x : new long[] {0, 1, -1, 35, 36, 255, -255, 1000000, Long.MAX_VALUE, Long.MIN_VALUE}) {
                Tongue.fresh("(number->string " + x + " " + radix + ")", "\"" + Long.toString(x, radix) + "\"");
            }
            Tongue.fresh("(number->string -35/36 " + radix + ")", "\"-" + Integer.toString(35, radix) + "/" + Integer.toString(36, radix) + "\"");
            BigInteger big = BigInteger.TWO.pow(300).subtract(BigInteger.ONE);
            Tongue.fresh("(number->string " + big + " " + radix + ")", "\"" + big.toString(radix) + "\"");
        }
        for (String radix : new String[] {"1", "0", "-1", "-2", "37", "100", "5/2", "18446744073709551618", "4294967298", "-18446744073709551614"}) {
            Tongue.freshFails("(number->string 5 " + radix + ")", "bad arguments: number->string");
        }
        Tongue.fresh("(number->string 10)", "\"10\"");
        Tongue.fresh("(list (number->string 0) (number->string -0) (number->string 4/2) (number->string -1/2))", "(\"0\" \"0\" \"2\" \"-1/2\")");
        Tongue.fresh("(string-length (number->string (- (- (expt 2 2047)) (- (expt 2 2047) 1)) 2))", "2049");
    }

    /** "string->number s (the number whose word it is, else #f, also of 1/0 or a row of digits that is too great)" */
    private static void wordsOfNumbers() {
        String most = BigInteger.TWO.pow(2048).subtract(BigInteger.ONE).toString();
        String over = BigInteger.TWO.pow(2048).toString();
        Tongue t = new Tongue();
        String[] words = {"0", "-0", "007", "-1/2", "2/4", "4/2", "-9223372036854775809", "0/5", most, "-" + most, "1/" + most, most + "/" + most};
        String[] values = {"0", "0", "7", "-1/2", "1/2", "2", "-9223372036854775809", "0", most, "-" + most, "1/" + most, "1"};
        for (int i = 0; i < words.length; i++) {
            t = new Tongue();
            t.is("(string->number \"" + words[i] + "\")", values[i]);
        }
        for (String word : new String[] {"", "-", "+", "+1", "1/0", "0/0", "1/00", "1/", "/1", "1/-1", "--1", "1/2/3", " 1", "1 ", "1\\n", "1.5", "a", "1a", "0x1", "#t", "(1)", "1;",
            "\\\"1\\\"", over, "-" + over, "1/" + over, over + "/" + over, "9".repeat(1000)}) {
            t = new Tongue();
            t.is("(string->number \"" + word + "\")", "#f");
        }
        t = new Tongue();
        t.is("(string->number \"" + "0".repeat(3000) + "5\")", "5");
        t.takes("(string->number \"1/0\")", 3, 2 + 2 + 1);
        t.takes("(string->number \"2/6\")", 3, 2 + 2 + 1 + 3);
        t.takes("(string->number \"6/2\")", 3, 2 + 2 + 1);
    }

    // ---- promises, output

    private static void forcing() {
        Tongue t = Tongue.with("($define! n 0) ($define! e ($current)) ($define! once ($lambda () ($set! e n (+ n 1)) n))");
        t.is("($define! p ($lazy (once))) (list (force p) (force p) (force p) n)", "(1 1 1 1)");
        t.is("($define! q (memoize (once))) (list (force q) (force q) n)", "(2 2 2)");
        // What memoize has is its value, though it is a promise.
        t.is("(list (promise? (force (memoize p))) (eq? p (force (memoize p))) (force (force (memoize p))))", "(#t #t 1)");
        // A promise that comes has this one's value from now on, now or later.
        t.is("($define! r ($lazy (once))) ($define! s ($lazy r)) (list (force s) (force r) n (eq? r s))", "(3 3 3 #f)");
        t.is("($define! r ($lazy (once))) ($define! s ($lazy r)) (list (force r) (force s) n)", "(4 4 4)");
        t.is("($define! s ($lazy (memoize p))) (list (eq? p (force s)) (eq? p (force s)))", "(#t #t)");
        // Its x is not evaluated again: it goes by the other one, also before that one has a value.
        t.is("($define! r ($lazy 6)) ($define! s ($lazy ($sequence (show 1) r))) (list (force s) (force s) (force r))", "(6 6 6)");
        Tongue.due("x was evaluated once", t.out(), "1");
        t.is("($define! ready #f) ($define! r ($lazy ($if ready 7 (error \"not yet\")))) ($define! s ($lazy ($sequence (show 1) r)))"
            + "($guard (force s) ($lambda (m) (show m))) ($define! ready #t) (list (force s) (force r))", "(7 7)");
        Tongue.due("x was evaluated once", t.out(), "1not yet");
        t.is("($define! ready #f) ($define! r ($lazy ($if ready ($sequence (show 2) 7) (error \"not yet\")))) ($define! s ($lazy ($sequence (show 1) r)))"
            + "($guard (force s) ($lambda (m) 0)) ($define! ready #t) (list (force r) (force s))", "(7 7)");
        Tongue.due("the value that that one gets", t.out(), "12");
        t.is("($define! a ($lazy ($sequence (show 1) b))) ($define! b ($lazy ($sequence (show 2) c))) ($define! c ($lazy ($sequence (show 3) 8)))"
            + "(list (force a) (force b) (force c) (force a))", "(8 8 8 8)");
        Tongue.due("in a row", t.out(), "123");
        t.run("($define! own ($lazy own)) (force own)", 100);
        Tongue.due("one that goes by itself has no value", t.x.state(), 2);
        t.run("($define! one ($lazy two)) ($define! two ($lazy one)) (force one)", 100);
        Tongue.due("nor have two that go by one another", t.x.state(), 2);
        // A promise that has got a value meanwhile keeps that.
        t.is("($define! m 0) ($define! r ($lazy ($sequence ($set! e m (+ m 1)) ($let ((x m)) ($if (<? m 5) (force r) #inert) x)))) (list (force r) (force r) m)", "(5 5 5)");
        // An error leaves it without a value.
        t.is("($define! n 0) ($define! u ($lazy ($if (=? (once) 1) (error \"first\") n))) (list ($guard (force u) ($lambda (m) m)) (force u) (force u))", "(\"first\" 2 2)");
        for (String x : new String[] {"5", "()", "\"s\"", "#inert", "a"}) {
            t.is("(force ($quote " + x + "))", x);
        }
    }

    private static void writing() {
        Tongue t = new Tongue();
        String[] texts = {"(write)", "(show)", "(newline)", "(write \"\")", "(show \"\")", "(show \"\" \"\")", "(write 1 2)", "(show 1 2)", "(write \"a\" \"b\")", "(show \"a\" \"b\")",
            "(show (list \"a\" (list \"b\\n\")) \"\\\"\")", "(write (list \"a\" (list \"b\\n\")) \"\\\"\")", "(show ($quote a) #t ())", "(newline)(newline)"};
        String[] outs = {"", "", "\n", "\"\"", "", " ", "1 2", "1 2", "\"a\" \"b\"", "a b", "(a (b\n)) \"", "(\"a\" (\"b\\n\")) \"\\\"\"", "a #t ()", "\n\n"};
        for (int i = 0; i < texts.length; i++) {
            t = new Tongue();
            t.is(texts[i], "#inert");
            Tongue.due("out of " + texts[i], t.out(), outs[i]);
        }
        String[] errors = {"(error)", "(error \"\")", "(error \"\" \"\")", "(error \"a\" 1 ($quote (b \"c\")))", "(error ())", "(error \"a\\nb\")"};
        String[] messages = {"", "", " ", "a 1 (b c)", "()", "a\nb"};
        for (int i = 0; i < errors.length; i++) {
            t = new Tongue();
            t.fails(errors[i], messages[i]);
            Tongue.due("out of " + errors[i], t.x.out(), 0);
        }
    }
}
