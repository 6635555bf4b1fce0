/** OPERATIVES of the ground: values, errors, and the order in which they look (promises 4, 5, 8). */
public final class OperativesTest {
    public static void main(String[] args) {
        ifs();
        definitions();
        vaus();
        lets();
        conds();
        logic();
        others();
        guards();
        Tongue.close();
    }

    private static void ifs() {
        Tongue t = new Tongue();
        t.is("($if #t 1 (error 2))", "1");
        t.is("($if #f (error 1) 2)", "2");
        t.is("($if ($if #f #t #f) 1 2)", "2");
        t.fails("($if 1 2 3)", "not a truth: 1");
        t.fails("($if () 2 3)", "not a truth: ()");
        t.fails("($if #inert 2 3)", "not a truth: #inert");
        t.fails("($if (error 1) 2 3)", "1");
    }

    private static void definitions() {
        Tongue t = new Tongue();
        t.is("($define! a 1)", "#inert");
        t.is("($define! (a . b) ($quote (2 3))) (list a b)", "(2 (3))");
        t.is("($define! #ignore 5)", "#inert");
        t.is("($define! e (make-environment ($current))) ($set! e x (+ a 1))", "#inert");
        t.is("(eval ($quote x) e)", "3");
        t.fails("x", "unbound: x");
        t.is("($set! e (p q) (list 1 2)) (eval ($quote (list p q)) e)", "(1 2)");
        t.fails("($set! 5 x 1)", "bad arguments: $set!");
        t.fails("($set! 5 x (error \"late\"))", "bad arguments: $set!");
        t.fails("($set! e 7 (error \"late\"))", "bad tree");
        t.fails("($set! e x)", "bad operands: $set!");
        t.fails("($set! e () 1)", "mismatch");
        // A name of the ground is hidden, not changed.
        t.is("($define! car cdr) (car ($quote (1 2)))", "(2)");
        t.is("(caar ($quote ((1) 2)))", "1");
    }

    private static void vaus() {
        Tongue t = new Tongue();
        t.is("(($vau (x) e (list x (eval x e))) (+ 1 2))", "((+ 1 2) 3)");
        t.is("($define! x 1) (($lambda (x) (($vau (y) e (eval y e)) x)) 2)", "2");
        t.is("(($vau x #ignore x) a b)", "(a b)");
        t.is("((($lambda (x) ($vau () #ignore x)) 7))", "7");
        t.fails("($vau x x 1)", "bad tree");
        t.is("(($vau x e (eq? e ($current))))", "#f");
        t.is("(($vau #ignore e (environment? e)) 1 2)", "#t");
        t.is("(($lambda #ignore 5) 1 2)", "5");
        t.takes("($lambda x x)", 2, 3 + 2);
        t.takes("($vau x #ignore x)", 2, 4 + 1);
    }

    private static void lets() {
        Tongue t = new Tongue();
        t.is("($let ((a 1) ((b . c) ($quote (2 3)))) (list a b c))", "(1 2 (3))");
        t.is("($define! a 5) ($let ((a 1) (b a)) (list a b))", "(1 5)");
        t.is("($let ((x 1) (x 2)) x)", "2");
        t.is("($let () 1 2)", "2");
        t.is("($let ())", "#inert");
        t.is("($let ((y 1)) ($define! z 2)) ($binds? ($current) z)", "#f");
        t.fails("($let)", "bad operands: $let");
        t.fails("($let 5 1)", "bad operands: $let");
        t.fails("($let ((a 1) . b) 1)", "bad operands: $let");
        t.fails("($let ((a 1 2)) 1)", "bad operands: $let");
        t.fails("($let ((a)) 1)", "bad operands: $let");
        t.fails("($let ((5 1) (a 1 2)) 1)", "bad operands: $let");
        t.fails("($let (((a a) 1)) 1)", "bad tree");
        t.fails("($let ((a (error 1)) (7 1)) 1)", "bad tree");
        t.fails("($let (((a) 1)) 1)", "mismatch");
        t.takes("($let ((a 1) (b 2)) a)", 1 + 1 + 1 + 1 + 1, 3 + 2 + 2 + 2 + 1 + 2);
        t.takes("($let ((x 1) (x 2)) x)", 5, 9 + 1 + 1);
    }

    private static void conds() {
        Tongue t = new Tongue();
        t.is("($cond (#f 1) ((<? 1 2) 2 3) (#t (error 1)))", "3");
        t.is("($cond (#f 1))", "#inert");
        t.is("($cond)", "#inert");
        t.is("($cond (#t))", "#inert");
        t.fails("($cond (5 1))", "not a truth: 5");
        t.fails("($cond ((error 1) 2) ())", "bad operands: $cond");
        t.fails("($cond (#t 2) 7)", "bad operands: $cond");
        t.fails("($cond (#t . 2))", "bad operands: $cond");
        t.takes("($cond (#f 1) (#t 2))", 2 + 2 + 1, 3 + 2 + 2);
    }

    private static void logic() {
        Tongue t = new Tongue();
        t.is("(list ($and?) ($or?) ($and? #t) ($or? #f) ($and? #t #f (error 1)) ($or? #f #t (error 1)))", "(#t #f #t #f #f #t)");
        t.is("(list ($and? #t #t) ($or? #f #f) ($and? #f) ($or? #t))", "(#t #f #f #t)");
        t.fails("($and? #t 5)", "not a truth: 5");
        t.fails("($or? #f ())", "not a truth: ()");
        t.fails("($and? 5 #f)", "not a truth: 5");
        t.is("($and? #f 5)", "#f");
        t.fails("($or? . 5)", "bad operands: $or?");
        // The last one has a frame: a guard around it is still around it.
        t.is("($define! k #f) ($guard ($and? #t (error \"in\")) ($lambda (m) m))", "\"in\"");
    }

    private static void others() {
        Tongue t = new Tongue();
        t.is("($sequence 1 2 3)", "3");
        t.is("($sequence)", "#inert");
        t.is("($quote (a . b))", "(a . b)");
        t.fails("($quote)", "bad operands: $quote");
        t.is("($define! e (make-environment)) ($set! e a 1) (list ($binds? e a) ($binds? e a car) ($binds? e) ($binds? ($current) car e))", "(#t #f #t #t)");
        t.fails("($binds? 5 a)", "bad arguments: $binds?");
        t.fails("($binds? e a 5)", "bad arguments: $binds?");
        t.fails("($binds? e zz 5)", "bad arguments: $binds?");
        t.fails("($binds? (error 1) 5)", "1");
        t.fails("($binds?)", "bad operands: $binds?");
        t.is("(eq? ($current) ($current))", "#t");
        t.fails("($current 1)", "bad operands: $current");
        t.fails("($lazy)", "bad operands: $lazy");
        t.takes("($lazy (error 1))", 2, 2 + 2 + 1);
        t.takes("($current)", 2, 1);
    }

    private static void guards() {
        Tongue t = new Tongue();
        t.is("($guard (car 5) ($lambda (m) (string-append \"caught \" m)))", "\"caught bad arguments: car\"");
        t.is("($guard 5 ($lambda (m) m))", "5");
        t.is("($guard (error \"x\" 1) ($lambda x x))", "(\"x 1\")");
        t.is("($guard (error 1) $quote)", "\"1\"");
        t.is("($guard (error 1) ($vau x e x))", "(\"1\")");
        t.is("($guard (error 1) (unwrap list))", "(\"1\")");
        t.is("($guard (error) ($lambda (m) m))", "\"\"");
        t.is("($guard ($guard (error 1) ($lambda (m) (error m 2))) ($lambda (m) m))", "\"1 2\"");
        t.is("($guard ($guard (error 1) ($lambda () 5)) ($lambda (m) m))", "\"mismatch\"");
        t.is("(list 1 ($guard (list 2 (car 3)) ($lambda (m) 4)) 5)", "(1 4 5)");
        t.is("($define! x 1) ($let ((x 2)) ($guard (error) ($vau #ignore e (eval ($quote x) e))))", "2");
        t.fails("($guard (error 1) 5)", "not a combiner: 5");
        t.fails("($guard 1 (error 2))", "2");
        t.fails("($guard 1)", "bad operands: $guard");
        t.is("($guard nothing ($lambda (m) m))", "\"unbound: nothing\"");
        // An operative of the ground pays for its new list, an applicative for that and its string.
        t.takes("($guard (error) $quote)", 2 + 1 + 2 + 1, 3 + 1 + 1 + 1);
        t.takes("($guard (error) list)", 2 + 1 + 2 + 1 + 1, 3 + 1 + 1 + 1 + 1);
        t.takes("($guard (error) (unwrap list))", 2 + 3 + 2, 3 + 1 + 2 + 1 + 1 + 1);
        // The end of the fuel is no error.
        t.run("($guard ($while #t 1) ($lambda (m) 5))", 300);
        Tongue.due("fuel ends", t.x.state(), 2);
    }
}
