/** Control: apply, map, continuations, guards, dynamics, statics, promises (promises 4, 6, 8, 10, 11). */
public final class ControlTest {
    public static void main(String[] args) {
        applying();
        mapping();
        continuations();
        passersAndExtended();
        guardsLeft();
        guardsEntered();
        guardOrder();
        guardChoice();
        guardErrors();
        guardCosts();
        dynamics();
        statics();
        promises();
        Tongue.close();
    }

    private static void applying() {
        Tongue t = new Tongue();
        t.is("(apply + (list 1 2))", "3");
        t.is("(apply ($lambda x x) 5)", "5");
        t.is("(apply ($lambda (a . b) (list b a)) ($quote (1 2 . 3)))", "((2 . 3) 1)");
        t.is("(apply (wrap ($vau () e (eq? e ($current)))) ())", "#f");
        t.is("(apply (wrap ($vau () e ($binds? e car))) ())", "#f");
        t.is("(eq? (apply (wrap ($vau () e e)) () ($current)) ($current))", "#t");
        t.fails("(apply (wrap ($vau () e (eval ($quote car) e))) ())", "unbound: car");
        t.fails("(apply $if (list 1))", "bad arguments: apply");
        t.fails("(apply car (list 1) 5)", "bad arguments: apply");
        t.fails("(apply car)", "bad arguments: apply");
        t.fails("(apply car (list 1) ($current) 5)", "bad arguments: apply");
        t.fails("(apply list 5)", "bad arguments: list");
        t.is("(apply (wrap (wrap $quote)) (list (list $quote 5)))", "5");
        t.fails("(apply (wrap car) 5)", "bad operands: 5");
        t.takes("(apply ($lambda () 1) ())", 1 + 1 + 2 + 1 + 1 + 1, 3 + 3 + 2 + 2 + 1 + 1);
        t.takes("(apply ($lambda () 1) () ($current))", 9, 4 + 3 + 1 + 2 + 3 + 1);
    }

    private static void mapping() {
        Tongue t = new Tongue();
        t.is("(map + ($quote (1 2 3)) ($quote (10 20 30)))", "(11 22 33)");
        t.is("(map ($lambda x x) ($quote (1 2)) ($quote (a b)) ($quote (() #t)))", "((1 a ()) (2 b #t))");
        t.is("(map car ())", "()");
        t.is("(map car () ())", "()");
        t.fails("(map car)", "bad arguments: map");
        t.fails("(map $quote (list 1))", "bad arguments: map");
        t.fails("(map $quote ())", "bad arguments: map");
        t.fails("(map car (list 1) ())", "bad arguments: map");
        t.fails("(map car 5)", "bad arguments: map");
        t.fails("(map car ($quote (1 . 2)))", "bad arguments: map");
        t.is("($define! e ($current)) (map (wrap ($vau (x) d (eq? d e))) (list 1))", "(#t)");
        t.is("(map (wrap (wrap $quote)) ($quote ((list 1) 5)))", "((1) 5)");
        t.is("($define! l (list 1 2 3)) (map ($lambda (x) ($sequence (set-cdr! l ()) x)) l)", "(1 2 3)");
        t.fails("($define! l (list 1 2 3 4)) (map ($lambda (x) ($sequence (set-cdr! (cdr l) ()) x)) l)", "bad arguments: map");
        t.is("($define! l (list 1 2 3)) (map ($lambda (x) ($sequence (set-car! (cdr l) 7) x)) l)", "(1 7 3)");
        // The values of another going through are those of their own.
        t.is("($define! k #f) ($define! got (map ($lambda (x) (call/cc ($lambda (c) ($sequence ($if (=? x 2) ($set! e k c) 0) x)))) (list 1 2 3))) got", "(1 2 3)");
        t.is("(throw k 20)", "#inert");
        t.is("got", "(1 20 3)");
        t.takes("(map list (list 1 2))", 1 + 2 + 4, 3 + 3 + 2 + 2 + 2 + 2);
    }

    private static void continuations() {
        Tongue t = new Tongue();
        t.is("(+ 1 (call/cc ($lambda (k) 5)))", "6");
        t.is("(+ 1 (call/cc ($lambda (k) (+ 100 (throw k 5)))))", "6");
        t.is("(call/cc list)", "(#continuation)");
        t.is("(call/cc ($vau x e (continuation? (car x))))", "#t");
        t.fails("(call/cc 5)", "bad arguments: call/cc");
        t.fails("(throw 5 1)", "bad arguments: throw");
        t.fails("(throw root)", "bad arguments: throw");
        t.is("(list 1 (throw root 7) (error 2))", "7");
        Tongue.due("a value that comes to root ends its datum only", t.run("(list (throw root 1)) 2 3"), 3);
        t.run("($define! k #f) ($define! e ($current)) ($define! n 0)");
        t.is("(list 1 (call/cc ($lambda (c) ($sequence ($set! e k c) 2))) 3)", "(1 2 3)");
        t.is("(throw k 20)", "(1 20 3)");
        t.is("(list (list (throw k 5)))", "(1 5 3)");
        t.is("(eq? root root)", "#t");
        t.is("(call/cc ($lambda (a) (call/cc ($lambda (b) (eq? a b)))))", "#f");
        t.takes("(call/cc list)", 3 + 1 + 1, 2 + 1 + 2 + 1);
        t.takes("(throw root 5)", 4, 3 + 2);
        // Generators by going to and fro.
        t.is("($define! out ()) ($define! back #f) ($define! next #f)"
            + "($define! give ($lambda (x) (call/cc ($lambda (c) ($sequence ($set! e next c) (throw back x))))))"
            + "($define! take ($lambda () (call/cc ($lambda (c) ($sequence ($set! e back c) (throw next 0))))))"
            + "(call/cc ($lambda (c) ($sequence ($set! e back c) (for-each give (list 1 2 3)) (throw back 9))))"
            + "(list (take) (take))", "(2 3)");
    }

    private static void passersAndExtended() {
        Tongue t = new Tongue();
        t.is("(list 1 (call/cc ($lambda (k) ((continuation->applicative k) 2 3))))", "(1 (2 3))");
        t.is("(apply (continuation->applicative root) 5)", "5");
        t.fails("(continuation->applicative 5)", "bad arguments: continuation->applicative");
        t.run("($define! a (continuation->applicative root))");
        t.takes("(continuation->applicative root)", 3, 2 + 1 + 1);
        t.takes("(a)", 2 + 1, 1);
        t.takes("(a 1)", 3, 2 + 1);
        t.takes("((unwrap a) 1 2)", 1 + 3 + 1, 3 + 2 + 1);
        t.takes("((unwrap a))", 1 + 3 + 1, 1 + 2 + 1);
        t.takes("(apply a ())", 4 + 1 + 1, 3 + 2 + 1);
        t.takes("(apply a 5)", 4 + 1, 3 + 2 + 1);
        t.is("((unwrap a) x y)", "(x y)");
        t.is("(throw (extend-continuation root ($lambda (a b) (list b a))) (list 1 2))", "(2 1)");
        t.is("(throw (extend-continuation root ($lambda x x)) 7)", "7");
        t.is("($define! e ($current)) (throw (extend-continuation root (wrap ($vau () d (eq? d e))) e) ())", "#t");
        t.is("(throw (extend-continuation root (wrap ($vau () d ($binds? d car)))) ())", "#f");
        t.is("(+ 1 (call/cc ($lambda (k) (throw (extend-continuation k +) (list 2 3)))))", "6");
        t.fails("(extend-continuation root $if)", "bad arguments: extend-continuation");
        t.fails("(extend-continuation 5 car)", "bad arguments: extend-continuation");
        t.fails("(extend-continuation root car 5)", "bad arguments: extend-continuation");
        t.fails("(throw (extend-continuation root +) 5)", "bad arguments: +");
        t.run("($define! x (extend-continuation root list)) ($define! y (extend-continuation root list e))");
        t.takes("(extend-continuation root list)", 4, 3 + 2 + 1);
        t.takes("(throw x ($quote (1 2)))", 3 + 2 + 1 + 2, 3 + 4 + 2 + 1);
        t.takes("(throw y ($quote (1 2)))", 3 + 2 + 1 + 2, 3 + 4 + 2);
        t.takes("(throw x 5)", 4 + 1, 3 + 2 + 1);
    }

    private static void guardsLeft() {
        Tongue t = new Tongue();
        t.is("(guard-dynamic-extent () ($lambda () 5) ())", "5");
        t.is("(guard-dynamic-extent () ($lambda () 5) (list (list root ($lambda (v d) (write v)))))", "5");
        Tongue.due("a value that comes by itself is not passed", t.out(), "");
        t.is("(list 1 (call/cc ($lambda (k) (guard-dynamic-extent () ($lambda () (throw k 2)) (list (list root ($lambda (v d) (list v 3))))))))", "(1 (2 3))");
        t.is("(list 1 (guard-dynamic-extent () ($lambda () (throw root 2)) (list (list root ($lambda (v d) (d v 9))))))", "(1 (2 9))");
        t.is("(list 1 (guard-dynamic-extent () ($lambda () (throw root 2)) (list (list root ($lambda (v d) (apply d v))))))", "(1 2)");
        t.is("(list 1 (guard-dynamic-extent () ($lambda () (throw root 2)) (list (list root ($lambda (v d) (list v))))))", "(2)");
        // From the innermost out.
        t.is("(call/cc ($lambda (k) (guard-dynamic-extent () ($lambda () (guard-dynamic-extent () ($lambda () (throw k 1))"
            + " (list (list root ($lambda (v d) (list v 2)))))) (list (list root ($lambda (v d) (list v 3)))))))", "((1 2) 3)");
        // A guard without a clause for it lets it by, to the next one.
        t.is("(call/cc ($lambda (k) (guard-dynamic-extent () ($lambda () (guard-dynamic-extent () ($lambda () (throw k 1)) ()))"
            + " (list (list root ($lambda (v d) (list v 3)))))))", "(1 3)");
        // In an environment of its own, which has no parents.
        t.is("($define! e ($current)) (guard-dynamic-extent () ($lambda () (throw root 1))"
            + " (list (list root (wrap ($vau (v d) in (list v (applicative? d) (eq? in e) ($binds? in car)))))))", "(1 #t #f #f)");
        // Only those that are left.
        t.is("(guard-dynamic-extent () ($lambda () (+ 1 (call/cc ($lambda (k) (throw k 1))))) (list (list root ($lambda (v d) 100))))", "2");
        t.is("(apply (wrap ($vau (f) e (guard-dynamic-extent () f ()))) (list (unwrap list)))", "()");
    }

    private static void guardsEntered() {
        Tongue t = new Tongue();
        t.run("($define! e ($current)) ($define! k #f)"
            + "(guard-dynamic-extent (list (list root ($lambda (v d) (list v 1)))) ($lambda ()"
            + " (guard-dynamic-extent (list (list root ($lambda (v d) (list v 2)))) ($lambda ()"
            + " (list 0 (call/cc ($lambda (c) ($sequence ($set! e k c) 5))))) ())) ())");
        Tongue.due("nothing is entered at first", t.told(), "(0 5)");
        // From the outermost in; the value that comes is the value for the next one.
        t.is("(throw k 7)", "(0 ((7 1) 2))");
        t.run("($define! j #f) (guard-dynamic-extent (list (list root ($lambda (v d) (d v)))) ($lambda () (list 0 (call/cc ($lambda (c) ($sequence ($set! e j c) 5))))) ())");
        // The way out of an entry is the continuation around its guard.
        t.is("(list 3 (throw j 7))", "(7)");
        t.is("($define! within #f) (list 1 (guard-dynamic-extent (list (list root ($lambda (v d) (+ v 1)))) ($lambda ()"
            + " (list 2 (call/cc ($lambda (c) ($sequence ($set! e within c) 5))))) (list (list root ($lambda (v d) (* v 100))))))", "(1 (2 5))");
        t.is("(list 9 (throw within 7))", "(1 (2 8))");
    }

    private static void guardOrder() {
        Tongue t = new Tongue();
        t.run("($define! e ($current)) ($define! k #f)"
            + "($define! tell ($lambda (n) ($lambda (v d) ($sequence (show n) (+ v 1)))))"
            + "($define! both ($lambda (n f) (guard-dynamic-extent (list (list root (tell (list n)))) f (list (list root (tell n))))))");
        t.is("(both 1 ($lambda () (both 2 ($lambda () (call/cc ($lambda (c) ($sequence ($set! e k c) 0)))))))", "0");
        t.is("(both 3 ($lambda () (both 4 ($lambda () (throw k 10)))))", "14");
        Tongue.due("out from within, then in from without", t.out(), "43(1)(2)");
        // A continuation of a guard's own entry: what goes on there is around the guard.
        t.is("(both 5 ($lambda () (+ 1000 (call/cc ($lambda (c) (throw c 1))))))", "1001");
        Tongue.due("within the guard nothing is passed", t.out(), "");
        // The exits that lie on the way are chosen at first, though the first of them jumps.
        t.is("(call/cc ($lambda (q) (both 6 ($lambda () (both 7 ($lambda () (throw q 0)))))))", "2");
        Tongue.due("both of them", t.out(), "76");
    }

    private static void guardChoice() {
        Tongue t = new Tongue();
        // The first exit whose continuation has the one that is passed to.
        t.is("(list (call/cc ($lambda (k) (guard-dynamic-extent () ($lambda () (throw k 1))"
            + " (list (list k ($lambda (v d) (list v 2))) (list root ($lambda (v d) (list v 3))))))))", "((1 2))");
        t.is("(list (call/cc ($lambda (k) (guard-dynamic-extent () ($lambda () (throw root 1))"
            + " (list (list k ($lambda (v d) (list v 2))) (list root ($lambda (v d) (list v 3))))))))", "(1 3)");
        t.is("(list (call/cc ($lambda (k) (guard-dynamic-extent () ($lambda () (throw root 1)) (list (list k ($lambda (v d) (list v 2))))))))", "1");
        // More frames on it: the clause's continuation still has the target.
        t.is("(call/cc ($lambda (k) (list 1 (call/cc ($lambda (j) (guard-dynamic-extent () ($lambda () (throw j 2))"
            + " (list (list k ($lambda (v d) (list v 3))))))))))", "(1 (2 3))");
        // Frames are the same ones, not equal ones.
        t.is("($define! e ($current)) ($define! k #f) ($define! f ($lambda () (list 0 (call/cc ($lambda (c) c)))))"
            + "($define! k1 (list-ref (f) 1)) ($define! k2 (list-ref (f) 1))"
            + "(call/cc ($lambda (out) (guard-dynamic-extent () ($lambda () (throw out 1)) (list (list k1 ($lambda (v d) 2)) (list out ($lambda (v d) 3))))))", "3");
        // An entry's continuation must have the one that is passed from.
        t.run("(guard-dynamic-extent (list (list k1 ($lambda (v d) 8)) (list root ($lambda (v d) (list v 9)))) ($lambda () (call/cc ($lambda (c) ($sequence ($set! e k c) 5)))) ())");
        t.is("(throw k 7)", "(7 9)");
    }

    private static void guardErrors() {
        Tongue t = new Tongue();
        String bad = "bad arguments: guard-dynamic-extent";
        t.fails("(guard-dynamic-extent () 5 ())", bad);
        t.fails("(guard-dynamic-extent 5 list ())", bad);
        t.fails("(guard-dynamic-extent () list (list 5))", bad);
        t.fails("(guard-dynamic-extent () list (list (list root)))", bad);
        t.fails("(guard-dynamic-extent (list (list root $if)) list ())", bad);
        t.fails("(guard-dynamic-extent (list (list 5 car)) list ())", bad);
        t.fails("(guard-dynamic-extent () list)", bad);
        t.fails("(guard-dynamic-extent () list (list (list root car car)))", bad);
        t.fails("(guard-dynamic-extent () list (cons (list root car) 5))", bad);
        // Errors are not passed: no exit sees them.
        t.is("($guard (guard-dynamic-extent () ($lambda () (error 1)) (list (list root ($lambda (v d) 5)))) ($lambda (m) m))", "\"1\"");
        t.fails("(guard-dynamic-extent () ($lambda () (throw root 1)) (list (list root car)))", "bad arguments: car");
        t.is("(list ($guard (guard-dynamic-extent () ($lambda () (throw root 1)) (list (list root car))) ($lambda (m) m)))", "(\"bad arguments: car\")");
        // What was taken stands: later changes of the clauses say nothing.
        t.is("($define! c (list root ($lambda (v d) (list v 1)))) ($define! l (list c))"
            + "(guard-dynamic-extent () ($lambda () ($sequence (set-car! (cdr c) 5) (set-cdr! l 5) (set-car! l 5) (throw root 0))) l)", "(0 1)");
    }

    private static void guardCosts() {
        Tongue t = new Tongue();
        t.run("($define! f ($lambda () 5)) ($define! c (list root list)) ($define! l (list c c))");
        t.takes("(guard-dynamic-extent l f (list c))", 1 + 3 + 3 + (2 + 4) + (1 + 2) + 1, 4 + 2 + 1 + 3 + 1);
        t.takes("(guard-dynamic-extent () f ())", 5 + 1, 4 + 3 + 1);
        t.run("($define! g ($lambda () (throw root 5)))");
        // The applicative, the environment, the list; list takes its new list for nothing.
        t.takes("(guard-dynamic-extent () g (list c))", 1 + 3 + 3 + 3 + 4, 4 + 2 + 1 + 3 + 1 + 2 + (1 + 1 + 2));
        t.takes("(guard-dynamic-extent () g ())", 5 + 4, 4 + 3 + 1 + 2);
    }

    private static void dynamics() {
        Tongue t = new Tongue();
        t.run("($define! (in get) (make-dynamic)) ($define! (in2 get2) (make-dynamic))");
        t.is("(in 5 ($lambda () (list (get) (in 6 get) (get))))", "(5 6 5)");
        t.is("(in 5 ($lambda () (in2 6 ($lambda () (list (get) (get2))))))", "(5 6)");
        t.fails("(get)", "unbound: dynamic");
        t.fails("(in 5 ($lambda () (get2)))", "unbound: dynamic");
        t.fails("(in 5)", "bad arguments: dynamic");
        t.fails("(in 5 6)", "bad arguments: dynamic");
        t.fails("(get 5)", "bad arguments: dynamic");
        t.fails("(make-dynamic 1)", "bad arguments: make-dynamic");
        t.is("($define! e ($current)) ($define! k #f) (in 7 ($lambda () (list (call/cc ($lambda (c) ($sequence ($set! e k c) 1))) (get))))", "(1 7)");
        t.is("(in 8 ($lambda () (throw k 2)))", "(2 7)");
        t.is("(in 1 ($vau x d (list x (eq? d e))))", "(() #t)");
        t.takes("(make-dynamic)", 2, 1 + 2 + 2);
        t.takes("(in 5 get)", 4, 3 + 2);
        t.is("(list in (unwrap get))", "(#applicative #operative)");
    }

    private static void statics() {
        Tongue t = new Tongue();
        t.run("($define! (in get) (make-static)) ($define! e ($current))");
        t.is("($define! d (in 5 e)) (eval (list get) d)", "5");
        t.is("(eval ($quote (list (get) e)) d)", "(5 #env)");
        t.is("(eval (list get) (in 6 d))", "6");
        t.is("(eval ($quote (($lambda () (get)))) d)", "5");
        t.is("(eval (list get) (make-environment (make-environment) d))", "5");
        t.fails("(get)", "unbound: static");
        t.fails("(apply get ())", "unbound: static");
        t.is("(apply get () d)", "5");
        t.fails("(in 5 6)", "bad arguments: static");
        t.fails("(in 5)", "bad arguments: static");
        t.fails("(get 1)", "bad arguments: static");
        int names = t.x.bindings();
        t.takes("(in 5 e)", 4, 3 + 2 + 2);
        t.takes("(make-static)", 2, 1 + 2 + 2);
        Tongue.due("a key is no name", t.x.bindings(), names);
    }

    private static void promises() {
        Tongue t = new Tongue();
        t.is("(list (force 5) (force ($lazy (+ 1 2))) (force (memoize 7)))", "(5 3 7)");
        t.run("($define! n 0) ($define! e ($current)) ($define! p ($lazy ($sequence ($define! n (+ n 1)) n)))");
        t.is("(list (force p) (force p) n)", "(1 1 1)");
        t.is("($define! q ($lazy p)) (list (force q) (eq? p q))", "(1 #f)");
        t.is("($define! a ($lazy b)) ($define! b ($lazy ($sequence ($define! n (+ n 1)) n))) (list (force a) (force b) (force a))", "(2 2 2)");
        t.is("(promise? (force (memoize (memoize 1))))", "#t");
        t.is("(force ($lazy (memoize 4)))", "4");
        t.is("($let ((x 3)) ($define! e2 ($current)) (force ($lazy x)))", "3");
        // A promise that has got a value meanwhile keeps that.
        t.is("($define! m 0) ($define! r ($lazy ($sequence ($define! m (+ m 1)) ($if (<? m 3) (force r) #inert) m))) (list (force r) m (force r))", "(3 3 3)");
        t.is("($define! first #t) ($define! s ($lazy ($if first ($sequence ($define! first #f) (force s) 1) 2))) (list (force s) (force s))", "(2 2)");
        // What has not come to an end is begun anew.
        t.is("($define! u ($lazy (throw k 1))) ($define! k #f) (list (call/cc ($lambda (c) ($sequence ($set! e k c) (force u)))) 2)", "(1 2)");
        t.is("($guard (force ($lazy (error 1))) ($lambda (m) m))", "\"1\"");
        // Promises of promises go on without an end in place, till the fuel is used.
        t.run("($define! loop ($lambda () ($lazy (loop)))) (force (loop))", 1000);
        Tongue.due("state", t.x.state(), 2);
        t.takes("(force ($lazy 1))", 2 + 2 + 1, 2 + 2 + 1 + 1);
        t.takes("(memoize 1)", 3, 2 + 1 + 1);
        t.fails("(force)", "bad arguments: force");
    }
}
