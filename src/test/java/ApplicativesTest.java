/** APPLICATIVES of the ground but numbers and control: lists, tests, strings, output (promises 4, 6, 8, 11). */
public final class ApplicativesTest {
    public static void main(String[] args) {
        pairs();
        lists();
        longLists();
        sameness();
        predicates();
        environments();
        capsules();
        strings();
        symbols();
        output();
        Tongue.close();
    }

    private static void pairs() {
        Tongue t = new Tongue();
        t.is("(list (cons 1 2) (car ($quote (3 . 4))) (cdr ($quote (3 . 4))))", "((1 . 2) 3 4)");
        t.is("($define! p (cons 1 2)) (list (set-car! p 5) (set-cdr! p ()) p)", "(#inert #inert (5))");
        t.fails("(set-car! ($quote (1)) 2)", "bad arguments: set-car!");
        t.fails("(set-cdr! ($quote (1)) 2)", "bad arguments: set-cdr!");
        t.fails("(set-car! () 2)", "bad arguments: set-car!");
        t.fails("(car ())", "bad arguments: car");
        t.fails("(cdr 5)", "bad arguments: cdr");
        t.fails("(cons 1)", "bad arguments: cons");
        t.takes("(cons 1 2)", 4, 3 + 2 + 1);
    }

    private static void lists() {
        Tongue t = new Tongue();
        t.is("(list)", "()");
        t.is("($define! l ($quote (1 2))) (eq? l (apply list l))", "#t");
        t.is("(list (length ()) (length l))", "(0 2)");
        t.fails("(length ($quote (1 . 2)))", "bad arguments: length");
        t.fails("(length ($quote #0=(1 . #0#)))", "bad arguments: length");
        t.is("(list (append) (append 5) (append () 6) (append l l 7) (append l ()))", "(() 5 6 (1 2 1 2 . 7) (1 2))");
        t.is("(eq? l (append l))", "#t");
        t.is("(eq? l (append l ()))", "#f");
        t.is("($define! m (append l l)) (list (eq? l (list-tail m 2)) (set-car! m 9) m l)", "(#t #inert (9 2 1 2) (1 2))");
        t.fails("(append l 5 l)", "bad arguments: append");
        t.is("(reverse ($quote (1 (2) 3)))", "(3 (2) 1)");
        t.is("(reverse ())", "()");
        t.fails("(reverse 5)", "bad arguments: reverse");
        t.is("(list (list-tail l 0) (list-tail l 2) (eq? l (list-tail l 0)))", "((1 2) () #t)");
        t.fails("(list-tail l 3)", "bad arguments: list-tail");
        t.fails("(list-tail l -1)", "bad arguments: list-tail");
        t.fails("(list-tail l 1/2)", "bad arguments: list-tail");
        t.fails("(list-tail l 18446744073709551617)", "bad arguments: list-tail");
        t.fails("(list-tail ($quote (1 . 2)) 0)", "bad arguments: list-tail");
        t.takes("(append l l 7)", 5, 4 + 3 + 4);
        t.takes("(reverse l)", 3, 2 + 1 + 2);
        t.takes("(list 1 2 3)", 5, 4 + 3);
    }

    /** 1000 pairs are a list, 1001 are none. */
    private static void longLists() {
        Tongue t = new Tongue();
        t.run("($define! a (iota 10 0)) ($define! b (append a a a a a a a a a a)) ($define! l (append b b b b b b b b b b))");
        t.is("(length l)", "1000");
        t.fails("(length (cons 1 l))", "bad arguments: length");
        t.is("(apply + l)", "4500");
        t.fails("(apply + (cons 1 l))", "bad arguments: +");
        t.is("(pair? (append (list 1) l))", "#t");
        t.fails("(append (cons 1 l) ())", "bad arguments: append");
        t.is("(length (eval (cons list l) ($current)))", "1000");
        t.fails("(eval (cons list (cons 1 l)) ($current))", "bad operands: (1" + " 0 1 2 3 4 5 6 7 8 9".repeat(10).substring(0, 184));
        t.fails("(eval (cons $sequence (cons 1 l)) ($current))", "bad operands: $sequence");
        t.is("(eval (cons $sequence l) ($current))", "9");
    }

    private static void sameness() {
        Tongue t = new Tongue();
        t.is("(list (eq? 1 1) (eq? 1/2 2/4) (eq? #t #t) (eq? () ()) (eq? ($quote a) ($quote a)) (eq? \"\" \"\") (eq? (list 1) (list 1)))",
            "(#t #t #t #t #t #f #f)");
        t.is("(list (eq? 100000000000000000000 100000000000000000000) (eq? 1 2) (eq? #t #f) (eq? () #inert) (eq? root root))", "(#t #f #f #f #t)");
        t.is("($define! s \"a\") (list (eq? s s) (eq? car car) (eq? ($lazy 1) ($lazy 1)))", "(#t #t #f)");
        t.is("(list (equal? \"ab\" \"ab\") (equal? \"ab\" \"abc\") (equal? ($quote a) \"a\") (equal? ($quote (1 (\"a\") . b)) ($quote (1 (\"a\") . b))))",
            "(#t #f #f #t)");
        t.is("(list (equal? 1 1) (equal? car car) (equal? (make-environment) (make-environment)) (equal? () ()) (equal? (list 1) 1))", "(#t #t #f #t #f)");
        t.fails("(equal? ($quote #0=(1 . #0#)) ($quote #1=(1 . #1#)))", "bad arguments: equal?");
        t.fails("($define! c ($quote #0=(1 . #0#))) (equal? c c)", "bad arguments: equal?");
        t.is("(equal? c ($quote #0=(2 . #0#)))", "#f");
        // A list of n atoms takes 2 n + 1 comparisons: 4999 take 9999, 5000 take too many.
        Tongue u = new Tongue();
        u.run("($define! a (iota 10 0)) ($define! b (append a a a a a a a a a a)) ($define! l (append b b b b b b b b b b))");
        u.run("($define! five (append l l l l (list-tail l 1)))");
        u.is("(equal? five (append l l l l (list-tail l 1)))", "#t");
        u.fails("($define! more (cons 0 five)) (equal? more more)", "bad arguments: equal?");
        t.fails("(eq? 1)", "bad arguments: eq?");
    }

    private static void predicates() {
        Tongue t = new Tongue();
        String[] names = {"null?", "pair?", "number?", "integer?", "boolean?", "symbol?", "string?", "inert?", "ignore?",
            "environment?", "combiner?", "operative?", "applicative?", "continuation?", "promise?"};
        String[] values = {"()", "(list 1)", "1/2", "5", "#f", "($quote a)", "\"a\"", "#inert", "#ignore",
            "($current)", "$if", "(unwrap car)", "car", "root", "($lazy 1)", "($vau x e)", "((car (make-capsule)) 1)"};
        int[] yes = {1, 2, 4, 8 + 4, 16, 32, 64, 128, 256, 512, 1024 + 2048, 1024 + 2048, 1024 + 4096, 8192, 16384, 1024 + 2048, 0};
        for (int i = 0; i < values.length; i++) {
            StringBuilder text = new StringBuilder("($define! x " + values[i] + ") (list");
            StringBuilder want = new StringBuilder();
            for (int j = 0; j < names.length; j++) {
                text.append(" (").append(names[j]).append(" x)");
                want.append(j == 0 ? "(" : " ").append((yes[i] >> j & 1) != 0 ? "#t" : "#f");
            }
            t.is(text + ")", want + ")");
        }
        for (String name : names) {
            t.fails("(" + name + ")", "bad arguments: " + name);
            t.fails("(" + name + " 1 2)", "bad arguments: " + name);
        }
        t.is("(list (not? #t) (not? #f))", "(#f #t)");
        t.fails("(not? 1)", "bad arguments: not?");
    }

    private static void environments() {
        Tongue t = new Tongue();
        t.run("($define! a (make-environment)) ($define! b (make-environment)) ($set! a x 1) ($set! b x 2) ($set! b y 3)");
        t.is("($define! c (make-environment a b)) (list (eval ($quote x) c) (eval ($quote y) c))", "(1 3)");
        t.is("($define! d (make-environment b a)) (eval ($quote x) d)", "2");
        t.is("($set! c x 9) (list (eval ($quote x) c) (eval ($quote x) a))", "(9 1)");
        t.fails("(eval ($quote z) (make-environment c d a b))", "unbound: z");
        t.fails("(eval ($quote (list 1)) a)", "unbound: list");
        t.fails("(make-environment a 5)", "bad arguments: make-environment");
        t.fails("(eval 1 2)", "bad arguments: eval");
        t.fails("(eval 1)", "bad arguments: eval");
        t.takes("(make-environment a b c)", 5, 4 + 3 + 3);
        t.takes("(make-environment)", 2, 1 + 1);
        // Parents in order, each with all that it has, ahead of the next one.
        t.is("($set! a only 1) ($define! e (make-environment (make-environment a) b)) (list (eval ($quote x) e) (eval ($quote only) e))", "(1 1)");
        // Diamonds in a row don't take forever.
        StringBuilder text = new StringBuilder("($define! e (make-environment))");
        for (int i = 0; i < 60; i++) {
            text.append("($define! e (make-environment e e))");
        }
        t.fails(text + "(eval ($quote nothing) e)", "unbound: nothing");
        t.is("(eval ($quote y) (make-environment e b))", "3");
        t.is("(eval ($quote x) (make-environment e (make-environment) b a))", "2");
    }

    private static void capsules() {
        Tongue t = new Tongue();
        t.run("($define! (in is out) (make-capsule)) ($define! (in2 is2 out2) (make-capsule))");
        t.is("($define! c (in 5)) (list (is c) (out c) (is2 c) (is 5) c)", "(#t 5 #f #f #capsule)");
        t.fails("(out 5)", "bad arguments: capsule");
        t.fails("(out2 c)", "bad arguments: capsule");
        t.fails("(in)", "bad arguments: capsule");
        t.fails("(is 1 2)", "bad arguments: capsule");
        t.fails("(make-capsule 1)", "bad arguments: make-capsule");
        t.takes("(make-capsule)", 2, 1 + 3 + 3);
        t.takes("(in 5)", 3, 2 + 1 + 1);
        // What is below these does not pay for a list as it stands.
        t.takes("((unwrap is) c)", 1 + 3, 2 + 2 + 1);
        t.is("(eq? (in 1) (in 1))", "#f");
    }

    private static void strings() {
        Tongue t = new Tongue();
        t.is("(list (string-append) (string-append \"a\" \"\" \"bc\") (string-length \"\") (string-length \"a\\nb\"))", "(\"\" \"abc\" 0 3)");
        t.fails("(string-append \"a\" 5)", "bad arguments: string-append");
        t.fails("(string-append ($quote a))", "bad arguments: string-append");
        t.fails("(string-length ($quote a))", "bad arguments: string-length");
        String half = "h".repeat(500);
        t.is("($define! h \"" + half + "\") (string-length (string-append h h))", "1000");
        t.fails("(string-append h h \"1\")", "bad arguments: string-append");
        t.is("(list (number->string 255) (number->string -255 16) (number->string 35/36 36) (number->string 5 2))", "(\"255\" \"-ff\" \"z/10\" \"101\")");
        t.is("(string-length (number->string (- (expt 2 2047) 1) 2))", "2047");
        t.is("(string-length (number->string (/ (- (expt 2 2047) 1) (expt 2 2047)) 2))", "4096");
        t.fails("(number->string 5 1)", "bad arguments: number->string");
        t.fails("(number->string 5 37)", "bad arguments: number->string");
        t.fails("(number->string 5 1/2)", "bad arguments: number->string");
        t.fails("(number->string \"5\")", "bad arguments: number->string");
        t.fails("(number->string)", "bad arguments: number->string");
        t.is("(map string->number (list \"5\" \"-2/4\" \"007\" \"1/0\" \"\" \"a\" \" 5\" \"+5\" \"5/\" \"-\" \"--5\"))", "(5 -1/2 7 #f #f #f #f #f #f #f #f)");
        t.is("(string->number \"" + java.math.BigInteger.TWO.pow(2048) + "\")", "#f");
        t.fails("(string->number 5)", "bad arguments: string->number");
        t.fails("(string->number ($quote a))", "bad arguments: string->number");
        t.takes("(string-append \"12345678\" \"12345678\" \"1\")", 5, 4 + 2 + 2 + 2 + 3 + 3);
        t.takes("(string->number \"18446744073709551616\")", 3, 2 + 3 + 1 + 3);
        t.takes("(number->string 5)", 3, 2 + 1 + 2);
    }

    private static void symbols() {
        Tongue t = new Tongue();
        t.is("(symbol->string ($quote a.b))", "\"a.b\"");
        t.fails("(symbol->string \"a\")", "bad arguments: symbol->string");
        t.is("(map string->symbol (list \"a\" \"+\" \"a,b\" \"..\" \"1/2/3\"))", "(a + a,b .. 1/2/3)");
        t.is("(eq? (string->symbol \"abc\") ($quote abc))", "#t");
        String forty = "s".repeat(40);
        t.is("(string->symbol \"" + forty + "\")", forty);
        for (String bad : new String[] {"", "s" + forty, "a b", "a(", "a)", "a;b", "\\\"", ".", "#t", "#0#", "#x", "5", "-5/6", "1/0", "\u00e9", "\\n"}) {
            t.fails("(string->symbol \"" + bad + "\")", "bad arguments: string->symbol");
        }
        t.fails("(string->symbol ($quote a))", "bad arguments: string->symbol");
        t.fails("(string->symbol \"" + java.math.BigInteger.TWO.pow(100) + "\")", "bad arguments: string->symbol");
        t.takes("(symbol->string ($quote abc))", 4, 2 + 2 + 1 + 2);
        t.takes("(string->symbol \"abc\")", 3, 2 + 2 + 1);
    }

    private static void output() {
        Tongue t = new Tongue();
        t.is("(list (write 1) (show 2) (newline))", "(#inert #inert #inert)");
        Tongue.due("output", t.out(), "12\n");
        t.run("(write \"a\" 1 ($quote (b \"c\"))) (show \"a\" 1 ($quote (b \"c\"))) (show) (write)");
        Tongue.due("output", t.out(), "\"a\" 1 (b \"c\")a 1 (b c)");
        t.fails("(newline 1)", "bad arguments: newline");
        t.fails("(apply write 5)", "bad arguments: write");
        t.takes("(write 1 2)", 4, 3 + 2);
    }
}
