/** EVALUATING: what is evaluated, what it costs, and what is taken as it stands (promises 4, 5, 8, 10). */
public final class EvaluatingTest {
    public static void main(String[] args) {
        plain();
        errors();
        looseOperands();
        unwrapped();
        compound();
        trees();
        asTheyStand();
        wrapped();
        Tongue.close();
    }

    private static void plain() {
        Tongue t = new Tongue();
        t.takes("()", 1, 0);
        t.takes("car", 1, 0);
        t.takes("((car (list +)) 1 2)", 8, 7 + 1 + 1 + 2);
        t.is("((car (list +)) 1 2)", "3");
        t.is("(eval (list + 1 2) (make-environment))", "3");
        t.is("(eval (cons $quote (list 5)) (make-environment))", "5");
    }

    private static void errors() {
        Tongue t = new Tongue();
        t.fails("nothing", "unbound: nothing");
        t.fails("(nothing 1)", "unbound: nothing");
        t.fails("(5 1)", "not a combiner: 5");
        t.fails("((list 1 \"a\") 1)", "not a combiner: (1 \"a\")");
        t.fails("(() 1)", "not a combiner: ()");
        t.fails("(car . 5)", "bad operands: 5");
        t.fails("(car 1 . 2)", "bad operands: (1 . 2)");
        t.fails("(list . #0=(1 . #0#))", "bad operands: #0=(1 . #0#)");
        t.fails("(car)", "bad arguments: car");
        t.fails("(car 1 2)", "bad arguments: car");
        t.fails("($if #t 1)", "bad operands: $if");
        t.fails("($if #t 1 2 3)", "bad operands: $if");
        t.fails("($if . 5)", "bad operands: $if");
        t.fails("($quote 1 . 2)", "bad operands: $quote");
    }

    /** Pairs that are not fixed cost fuel when an applicative or an operative of the ground takes them. */
    private static void looseOperands() {
        Tongue t = new Tongue();
        t.run("($define! e ($current)) ($define! l (list 1 2 3)) ($define! call (cons + l))");
        // eval, call and e: 4; the pair and +: 2; three pairs; three operands.
        t.takes("(eval call e)", 4 + 2 + 3 + 3, 3 + 2 + 3);
        t.run("($define! half (cons 1 ($quote (2 3)))) ($define! call (cons + half))");
        t.takes("(eval call e)", 4 + 2 + 1 + 3, 3 + 2 + 3);
        t.run("($define! call (list $if #t 1 2))");
        t.takes("(eval call e)", 4 + 2 + 3 + 2, 3 + 2);
        t.run("($define! call (list $quote 1 2))");
        t.takes("(eval call e)", 4 + 2, 3 + 2);
        t.fails("(eval call e)", "bad operands: $quote");
        t.run("($define! f ($vau x #ignore x)) ($define! call (list f 1 2))");
        t.takes("(eval call e)", 4 + 2 + 1, 3 + 2 + 2);
        // One by one: what is there is used, though it is not enough.
        Tongue u = new Tongue();
        u.run("($define! e ($current)) ($define! call (list + 1 2 3))");
        int fuel = u.x.fuel();
        u.run("(eval call e)", 7);
        Tongue.due("state", u.x.state(), 2);
        Tongue.due("fuel", u.x.fuel() - fuel, 7);
        // $cond: the operands, then each clause when all have been seen.
        t.run("($define! call (list $cond (list #f 1) ($quote (#f 2)) (list #t 3)))");
        t.takes("(eval call e)", 4 + 2 + 3 + 4 + 3 + 1, 3 + 2);
        t.run("($define! call (list $cond (list #f 1) ()))");
        t.takes("(eval call e)", 4 + 2 + 2, 3 + 2);
        // $let: the operands, the list, each (tree x), then each tree.
        t.run("($define! call (list $let (list (list (list ($quote a) ($quote b)) (list list 1 2)) ($quote (c 4))) ($quote c)))");
        t.takes("(eval call e)", 4 + 2 + 2 + 2 + 2 + 2 + (1 + 1 + 2 + 2) + 1 + 1, 3 + 2 + 2 + 1 + 3);
        t.run("($define! call (list $let (list (list 1 2) (list ($quote a) 3)) 4))");
        t.takes("(eval call e)", 4 + 2 + 2 + 2 + 4, 3 + 2);
        t.fails("(eval call e)", "bad tree");
    }

    /** What is below the ground's applicatives pays for a list that it is combined with as it stands. */
    private static void unwrapped() {
        Tongue t = new Tongue();
        t.takes("((unwrap list) 1 2 3)", 1 + 3 + 3, 4 + 2 + 1);
        t.is("((unwrap list) a (b))", "(a (b))");
        t.takes("((unwrap list) . 5)", 4, 1 + 2 + 1);
        t.fails("((unwrap list) . 5)", "bad arguments: list");
        t.takes("((unwrap car) 1 2)", 1 + 3 + 2, 3 + 2 + 1);
        t.takes("((unwrap (unwrap (wrap car))) (1))", 1 + 2 + 2 + 3 + 1, 9 + 1 + 1 + 1 + 1);
        t.run("($define! l (list 1 2))");
        t.takes("(apply list l)", 4 + 1 + 2, 3 + 2 + 1);
        t.takes("(apply list l ($current))", 6 + 1 + 2, 5 + 3);
        t.takes("(apply + ($quote (1 2)))", 5 + 1 + 2, 7 + 2 + 1);
        t.takes("(apply list 5)", 4 + 1, 3 + 2 + 1);
        t.takes("(apply car l)", 4 + 1 + 2, 3 + 2 + 1);
        t.fails("(apply car l)", "bad arguments: car");
        // map and call/cc give new lists, which cost nothing.
        t.takes("(map car (list l l))", 4 + 3, 6 + 2 + 2 + 2 + 2);
        t.is("(apply apply (list list (list 1 2)))", "(1 2)");
    }

    private static void compound() {
        Tongue t = new Tongue();
        t.is("(($vau (a . b) e (list a b (eval a e))) (+ 1 2) x y)", "((+ 1 2) (x y) 3)");
        t.is("(($vau x #ignore x) . 5)", "5");
        t.is("(($vau x #ignore) 1)", "#inert");
        t.is("(($vau () e (eq? e ($current))))", "#f");
        t.is("(($lambda (x (y z)) (list z y x)) 1 (list 2 3))", "(3 2 1)");
        t.fails("(($lambda (x) x))", "mismatch");
        t.fails("(($lambda (x) x) 1 2)", "mismatch");
        t.fails("(($vau () #ignore 1) . 5)", "mismatch");
        t.fails("(($vau (x) #ignore 1) . 5)", "mismatch");
        t.is("($define! n 1) ($define! f ($lambda () n)) ($let ((n 2)) (f))", "1");
        t.is("(($lambda (x) 1 2 x) 3)", "3");
        t.takes("($define! g ($vau (a b) e a b))", 4, 3 + 5 + 2 + 1 + 1);
        t.takes("(g 1 2)", 4, 3 + 1 + 3);
        // In place of the whole: the depth costs nothing but fuel.
        t.is("($letrec ((loop ($lambda (n) ($if (zero? n) \"end\" (loop (- n 1)))))) (loop 500))", "\"end\"");
    }

    private static void trees() {
        Tongue t = new Tongue();
        t.is("($define! (a #ignore (b . c) ()) ($quote (1 2 (3 4 5) ()))) (list a b c)", "(1 3 (4 5))");
        t.fails("($define! (a a) 1)", "bad tree");
        t.fails("($define! 5 1)", "bad tree");
        t.fails("($define! \"a\" 1)", "bad tree");
        t.fails("($define! (a . #t) nothing)", "bad tree");
        t.fails("($define! #0=(a . #0#) 1)", "bad tree");
        t.fails("($vau (a b) a 1)", "bad tree");
        t.fails("($vau (a b) (c) 1)", "bad tree");
        t.fails("($vau (a b) 5)", "bad tree");
        t.fails("($vau (a b))", "bad operands: $vau");
        t.fails("($lambda)", "bad operands: $lambda");
        t.fails("($define! a)", "bad operands: $define!");
        t.fails("($set! ($current) (a a) nothing)", "bad tree");
        t.fails("($define! () 1)", "mismatch");
        t.fails("($define! (q1 q2) ($quote (7)))", "mismatch");
        t.is("q1", "7");
        // A tree has one leaf more than pairs: 199 parts are right, 201 are not.
        String many = "#ignore ".repeat(99);
        t.is("($lambda (" + many + ") 1)", "#applicative");
        t.fails("($lambda (" + many + "#ignore) 1)", "bad tree");
        t.fails("($lambda (" + "#ignore ".repeat(98) + " (a . b)) 1)", "bad tree");
    }

    private static void asTheyStand() {
        Tongue t = new Tongue();
        t.run("($define! e ($current)) ($define! body (list 1 2 ($quote (list 3))))");
        t.is("($define! f (eval (list* $lambda () body) e)) (set-car! (cdr (cdr body)) 9) (set-cdr! body ()) (f)", "(3)");
        t.is("($define! tree (list ($quote a) ($quote b))) ($define! f (eval (list $lambda tree ($quote b)) e)) (set-car! (cdr tree) ($quote c)) (f 1 2)", "2");
        // An operand list that is cut while it is evaluated.
        t.is("($define! ops (list ($quote (set-cdr! ops ())) 2 3)) (eval (cons list ops) e)", "(#inert 2 3)");
        // What is deeper is as it is when it is evaluated.
        t.is("($define! deep (list list 1)) ($define! ops (list ($quote (set-car! (cdr deep) 7)) deep)) (eval (cons list ops) e)", "(#inert (7))");
        t.is("($define! clause (list #f 1)) ($define! next (list #t 2)) ($define! c (list $cond (list ($quote ($sequence (set-car! (cdr next) 5) #f)) 1) next)) (eval c e)", "2");
        t.is("($define! b2 (list ($quote y) ($quote x))) ($define! l (list $let (list (list ($quote x) ($quote (set-car! b2 5))) (list ($quote y) 2)) ($quote y))) (eval l e)", "2");
        t.is("($define! s (list $sequence ($quote (set-cdr! s ())) 2 3)) (eval s e)", "3");
        t.is("($define! p (list $define! (list ($quote v)) ($quote ($sequence (set-car! (car (cdr p)) ($quote w)) (list 4))))) (eval p e) v", "4");
        // The cdr that the pair had when this began.
        t.is("($define! q (list ($quote ($sequence (set-cdr! q (list 5)) list)) 1 2)) (eval q e)", "(1 2)");
    }

    private static void wrapped() {
        Tongue t = new Tongue();
        t.is("((wrap $quote) (+ 1 2))", "3");
        t.is("($define! x 5) ((wrap (wrap $quote)) ($quote x))", "5");
        t.takes("((wrap $quote) 1)", 1 + 3 + 1 + 1, 2 + 2 + 1 + 1 + 1);
        t.is("((unwrap (wrap $quote)) x)", "x");
        t.is("(eq? (unwrap (wrap $quote)) $quote)", "#t");
        t.is("(eq? (unwrap car) (unwrap car))", "#t");
        t.fails("(wrap 5)", "bad arguments: wrap");
        t.fails("(unwrap $quote)", "bad arguments: unwrap");
    }
}
