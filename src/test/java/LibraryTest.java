/** THE LIBRARY: each of its names does what its text says (promises 1, 4, 8). */
public final class LibraryTest {
    public static void main(String[] args) {
        lists();
        operatives();
        environments();
        folds();
        control();
        costs();
        edges();
        nothingCounts();
        Tongue.close();
    }

    private static void lists() {
        Tongue t = new Tongue();
        t.is("(list (list* 1) (list* 1 2) (list* 1 2 (list 3)))", "(1 (1 . 2) (1 2 3))");
        t.is("($define! x ($quote ((1 2) (3 4) 5))) (list (caar x) (cadr x) (cdar x) (cddr x) (caddr x))", "(1 (3 4) (2) (5) 5)");
        t.is("(list-ref x 2)", "5");
        t.fails("(list-ref x 3)", "bad arguments: car");
        t.fails("(list-ref x 4)", "bad arguments: list-tail");
        t.fails("(list*)", "mismatch");
        t.takes("(caar x)", 3 + 3 + 2, 2 + 1 + 2 + 1 + 1);
    }

    private static void operatives() {
        Tongue t = new Tongue();
        t.is("(list ($when #t 1 2) ($when #f 1) ($unless #f 1 2) ($unless #t 1) ($when #t))", "(2 #inert 2 #inert #inert)");
        t.fails("($when 5 1)", "not a truth: 5");
        t.is("($let* ((a 1) (b (+ a 1)) (a b)) (list a b))", "(2 2)");
        t.is("($let* () 5)", "5");
        t.is("($letrec ((ev? ($lambda (n) ($if (zero? n) #t (od? (- n 1))))) (od? ($lambda (n) ($if (zero? n) #f (ev? (- n 1)))))) (ev? 11))", "#f");
        t.is("($define! n 0) ($while (<? n 5) (write n) ($define! n (+ n 1)))", "#inert");
        Tongue.due("output", t.out(), "01234");
    }

    private static void environments() {
        Tongue t = new Tongue();
        t.is("($define! a 1) ($let-redirect (make-environment ($current)) ((b (+ a 1))) (list a b))", "(1 2)");
        t.fails("($let-redirect (make-environment) ((b 1)) (list b))", "unbound: list");
        t.is("($define! e ($bindings->environment (x 1) (y (+ a 1)))) (list ($remote-eval x e) ($remote-eval y e) ($binds? e list a x))", "(1 2 #f)");
        t.is("($provide! (f) ($define! hidden 5) ($define! f ($lambda () hidden))) (list (f) ($binds? ($current) hidden))", "(5 #f)");
        t.is("($import! e x y) (list x y)", "(1 2)");
        t.fails("($import! e z)", "unbound: z");
    }

    private static void folds() {
        Tongue t = new Tongue();
        t.is("(filter odd? (list 1 2 3 4 5))", "(1 3 5)");
        t.is("(list (reduce (list 1 2 3) - 0) (reduce () - 7) (reduce (list 5) - 7))", "(2 7 5)");
        t.is("(fold - 10 (list 1 2 3))", "4");
        t.is("(list (assoc 2 ($quote ((1 a) (2 b)))) (assoc \"x\" ($quote ((\"x\" 1)))) (assoc 3 ($quote ((1 a)))))", "((2 b) (\"x\" 1) ())");
        t.is("(list (member? 2 (list 1 2)) (member? (list 1) ($quote ((1)))) (member? 3 ()))", "(#t #t #f)");
        t.is("(for-each ($lambda (x y) (show (+ x y))) (list 1 2) (list 3 4))", "#inert");
        Tongue.due("output", t.out(), "46");
        t.is("(sort <? (list 3 1 2 3 1/2))", "(1/2 1 2 3 3)");
        t.is("(sort >? ())", "()");
        t.is("(list (iota 4 1) (iota 0 1) (iota -1 5))", "((1 2 3 4) () ())");
        t.is("((compose - +) 1 2 3)", "-6");
    }

    private static void control() {
        Tongue t = new Tongue();
        t.is("($define! from ($lambda (n) ($stream n (from (+ n 1))))) (stream-head (from 3) 4)", "(3 4 5 6)");
        t.is("(+ 1 (call-escape ($lambda (out) (+ 10 (out 5)))))", "6");
        t.is("(dynamic-wind ($lambda () (show 1)) ($lambda () 5) ($lambda () (show 2)))", "5");
        Tongue.due("output", t.out(), "12");
        t.is("(call-escape ($lambda (out) (dynamic-wind ($lambda () (show 1)) ($lambda () (out 7)) ($lambda () (show 2)))))", "7");
        Tongue.due("output", t.out(), "12");
        t.is("(list (combiner? dynamic-wind) root)", "(#t #continuation)");
        // The library's pairs are fixed, and its names mean what they meant there.
        t.is("($define! car 5) (fold ($vau x e x) 0 (list 1))", "(z (car l))");
        t.fails("(set-car! (fold ($vau x e x) 0 (list 1)) 5)", "bad arguments: set-car!");
    }

    /** Their pairs are fixed: evaluating them costs what it says, nothing for lists. */
    private static void costs() {
        Tongue.costs("($define! x ($quote ((1))))", "(caar x)", "1", 3 + 5, 2 + 1 + 2 + 1 + 1);
        Tongue.costs("", "(list* 1)", "1", 3 + 6, 2 + 1 + 3 + 1);
        Tongue.costs("", "($when #t 1)", "1", 2 + 2 + 5 + 7 + 3, 3 + 4 + 2 + 3 + 2);
        Tongue.costs("", "($unless #t 1)", "#inert", 2 + 2 + 5 + 1, 3 + 4 + 2);
        Tongue.costs("", "(iota 0 5)", "()", 4 + 7, 3 + 2 + 3 + 2);
        Tongue.costs("", "(iota 1 5)", "(5)", 4 + 6 + 13 + 7, 24);
        // list* calls itself by apply twice; the one loose pair behind $let costs one, too.
        Tongue.costs("", "($let* ())", "#inert", 2 + 2 + 5 + 5 + 13 + 13 + 6 + 1 + 3, 2 + 4 + 1 + 3 + 7 + 7 + 4 + 3 + 3 + 2 + 1);
    }

    /** Each name at the end of what it takes. */
    private static void edges() {
        Tongue t = new Tongue();
        t.is("(list (filter odd? ()) (filter odd? (list 2)) (filter odd? (list 1)))", "(() () (1))");
        t.fails("(filter ($lambda (x) x) (list 1))", "not a truth: 1");
        t.fails("(filter odd? 5)", "bad arguments: car");
        t.is("(list (reduce () + 7) (reduce (list 5) + 7) (reduce (list 5 6) + 7))", "(7 5 11)");
        t.is("(list (fold + 7 ()) (fold + 7 (list 1)))", "(7 8)");
        t.is("(list (assoc 1 ()) (assoc 1 ($quote ((1)))) (assoc 2 ($quote ((1)))))", "(() (1) ())");
        t.is("(list (member? 1 ()) (member? 1 (list 1)) (member? 2 (list 1)))", "(#f #t #f)");
        t.is("(list (iota 0 1) (iota 1 1) (iota -1 1) (iota 1/2 1) (iota 3/2 1))", "(() (1) () (1) (1 2))");
        t.is("(list (sort <? ()) (sort <? (list 1)) (sort <? (list 2 1)) (sort <=? (list 1 1)))", "(() (1) (1 2) (1 1))");
        t.is("(list (list-ref (list 1 2) 0) (list-ref (list 1 2) 1))", "(1 2)");
        t.fails("(list-ref (list 1 2) 2)", "bad arguments: car");
        t.fails("(list-ref (list 1 2) 3)", "bad arguments: list-tail");
        t.fails("(list-ref (list 1 2) -1)", "bad arguments: list-tail");
        t.is("(list (stream-head 5 0) (car ($stream 1 (car 2))))", "(() 1)");
        t.fails("(stream-head ($stream 1 (car 2)) 1)", "bad arguments: car");
        t.is("(list ($while #f 1) ($when #f nothing) ($unless #t nothing) ($let* ()) ($letrec () 5))", "(#inert #inert #inert #inert 5)");
        t.fails("($while 5 1)", "not a truth: 5");
        t.fails("($when)", "mismatch");
        t.fails("(caar (list 1))", "bad arguments: car");
        t.fails("(caar)", "mismatch");
        t.is("(for-each show ())", "#inert");
        t.fails("(for-each show)", "bad arguments: map");
        t.is("(call-escape ($lambda (out) 5))", "5");
        t.is("((compose - +))", "0");
        t.is("(list (environment? ($bindings->environment)) ($binds? ($bindings->environment (a 1)) a) ($binds? ($bindings->environment (a 1)) car))", "(#t #t #f)");
    }

    private static void nothingCounts() {
        Tongue t = new Tongue();
        Tongue.due("fuel and MADE of a new object", t.x.fuel() + t.x.made() + t.x.bindings(), 0);
        for (String name : new String[] {"list*", "caar", "cadr", "cdar", "cddr", "caddr", "list-ref", "filter", "reduce", "fold", "assoc", "member?", "for-each", "sort", "iota", "compose",
            "stream-head", "call-escape", "dynamic-wind"}) {
            Tongue.fresh(name, "#applicative");
        }
        for (String name : new String[] {"$when", "$unless", "$let*", "$letrec", "$let-redirect", "$bindings->environment", "$remote-eval", "$provide!", "$import!", "$while", "$stream"}) {
            Tongue.fresh(name, "#operative");
        }
    }
}
