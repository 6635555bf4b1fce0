/** The boundary cases of continuations, PASSING, dynamics, statics, and of what apply and map give their combiners. */
public final class EdgesOfPassingTest {
    private static final String E = "($define! e ($current)) ($define! k #f) ";
    /** Keeps the present continuation as k. */
    private static final String KEEP = "(call/cc ($lambda (c) ($sequence ($set! e k c) 5)))";

    public static void main(String[] args) {
        withoutGuards();
        endsOfData();
        whichExitHasK();
        whichEntryHasC();
        insideAndAround();
        order();
        valuesOnTheWay();
        waysOut();
        environmentsAndLists();
        errorsOnTheWay();
        costs();
        ends();
        sameFrames();
        extendedOnes();
        clausesAsTheyStand();
        dynamics();
        statics();
        environmentsOfCombiners();
        Tongue.close();
    }

    // ---- "Without any of these the value comes to K at once."

    private static void withoutGuards() {
        Tongue.costs("", "(throw root 5)", "5", 4, 5);
        Tongue.costs("", "(list 1 (throw root 5))", "5", 7, 8);
        Tongue.fresh("(call/cc ($lambda (k) (throw k 5)))", "5");
        Tongue.fresh("(list 1 (call/cc ($lambda (k) (list 2 (throw k 5)))) 3)", "(1 5 3)");
        Tongue.fresh("(call/cc ($lambda (k) 5))", "5");
        Tongue.fresh("(throw root (list 1 2))", "(1 2)");
        Tongue.fresh("(throw root root)", "#continuation");
        Tongue.fresh("(call/cc ($lambda (k) (list 1 (call/cc ($lambda (j) (throw k (throw j 2)))))))", "(1 2)");
        // A guard on the way whose clauses have nothing for it, or none, lets it by; so does one that isn't left.
        Tongue.fresh("(guard-dynamic-extent () ($lambda () (throw root 5)) ())", "5");
        Tongue.fresh("(guard-dynamic-extent (list (list root list)) ($lambda () (throw root 5)) ())", "5");
        Tongue.fresh("(guard-dynamic-extent () ($lambda () (call/cc ($lambda (k) (throw k 5)))) (list (list root list)))", "5");
        Tongue.fresh("(guard-dynamic-extent (list (list root list)) ($lambda () (list 1 (call/cc ($lambda (k) (throw k 5))))) (list (list root list)))", "(1 5)");
        // Lists that look like clauses are none where no guard has them.
        Tongue.fresh("(list (list root ($lambda (v d) 9)) (throw root 1))", "1");
        Tongue.fresh("($let ((a (list (list root ($lambda (v d) 9))))) (list a (throw root 1)))", "1");
        // What comes by itself is not passed.
        Tongue.fresh("(guard-dynamic-extent (list (list root list)) ($lambda () 5) (list (list root list)))", "5");
    }

    /** "a value that comes to that ends the datum at hand, whichever it was begun for" */
    private static void endsOfData() {
        Tongue t = Tongue.with(E);
        Tongue.due("three data", t.run("(list 1 " + KEEP + ") 2 3"), 3);
        Tongue.due("the datum at hand ends", t.run("7 (list 9 (throw k 8)) (show 6)"), 3);
        Tongue.due("and the next one is begun", t.out(), "6");
        t.is("(throw k 8)", "(1 8)");
        t.is("(show 1) (throw root 2) (show 3) (list (throw k 4) (show 5))", "(1 4)");
        Tongue.due("nothing that was left goes on", t.out(), "13");
    }

    // ---- "each guard's first exit whose continuation has K (K is it, or it with more frames on it)"

    private static void whichExitHasK() {
        String all = "(call/cc ($lambda (k) (list 1 (call/cc ($lambda (j) (list 2 (call/cc ($lambda (i) (guard-dynamic-extent () ($lambda () (throw TO 0))"
            + " (list (list CLAUSE ($lambda (v d) 9))))))))))))";
        // k is as empty as root, j has more frames, i still more: a clause of one has that one and those with more.
        String[] names = {"root", "k", "j", "i"};
        String[] plain = {"0", "0", "(1 0)", "(1 (2 0))"};
        String[] caught = {"9", "9", "(1 9)", "(1 (2 9))"};
        for (int to = 0; to < 4; to++) {
            for (int clause = 0; clause < 4; clause++) {
                boolean has = to >= clause || to == 0 && clause == 1;
                Tongue.fresh(all.replace("TO", names[to]).replace("CLAUSE", names[clause]), has ? caught[to] : plain[to]);
            }
        }
        // The first of several that have it; those that haven't are passed over.
        String two = "(call/cc ($lambda (k) (list 1 (call/cc ($lambda (j) (guard-dynamic-extent () ($lambda () (throw k 0))"
            + " (list (list A ($lambda (v d) 7)) (list B ($lambda (v d) 8)))))))))";
        Tongue.fresh(two.replace("A", "j").replace("B", "k"), "8");
        Tongue.fresh(two.replace("A", "k").replace("B", "root"), "7");
        Tongue.fresh(two.replace("A", "root").replace("B", "k"), "7");
        Tongue.fresh(two.replace("A", "j").replace("B", "j"), "0");
    }

    /** "each guard's first entry whose continuation has C" */
    private static void whichEntryHasC() {
        // The entries' continuation is root, or that of an earlier datum's part, or one that is at hand.
        String in = E + "($define! h #f) (list 0 (call/cc ($lambda (c) ($sequence ($set! e h c) 1))))"
            + "(guard-dynamic-extent (list (list h ($lambda (v d) (list v 1))) (list root ($lambda (v d) (list v 2)))) ($lambda () " + KEEP + ") ())";
        Tongue t = Tongue.with(in);
        t.is("(throw k 7)", "(7 2)");
        t.is("(list 3 (throw k 7))", "(7 2)");
        // From within h's frames the first one has it.
        t.is("(throw (extend-continuation h ($lambda () (throw k 7))) ())", "(7 1)");
        Tongue u = Tongue.with(E + "($define! h #f) (list 0 (call/cc ($lambda (c) ($sequence ($set! e h c) 1))))"
            + "(guard-dynamic-extent (list (list h ($lambda (v d) (list v 1)))) ($lambda () " + KEEP + ") ())");
        u.is("(throw k 7)", "7");
        u.is("(throw (extend-continuation h ($lambda () (throw k 7))) ())", "(7 1)");
        u.is("(throw (extend-continuation h ($lambda () (list 5 (throw k 7)))) ())", "(7 1)");
    }

    /** The guard's frame lies between what is within it and what is around it. */
    private static void insideAndAround() {
        String d = E + "($define! j #f) (list 1 (call/cc ($lambda (c) ($sequence ($set! e j c) (guard-dynamic-extent (list (list root ($lambda (v d) (list v 8))))"
            + " ($lambda () " + KEEP + ") (list (list root ($lambda (v d) (list v 9)))))))))";
        Tongue t = Tongue.with(d);
        // k is directly within, j directly around.
        t.is("(throw k 0)", "(1 (0 8))");
        t.is("(throw j 0)", "(1 0)");
        t.is("(throw (extend-continuation k ($lambda x (throw j 0))) ())", "(1 (0 9))");
        t.is("(throw (extend-continuation k ($lambda x (throw k 0))) ())", "(1 0)");
        t.is("(throw (extend-continuation j ($lambda () (throw k 0))) ())", "(1 (0 8))");
        // An extension of k is within, too: it is entered with ().
        t.is("(throw (extend-continuation k ($lambda x x)) 0)", "(1 (0 8))");
        t.is("(throw (extend-continuation k ($lambda (v . w) (throw root (list v w)))) 0)", "((0 (8)) 9)");
    }

    // ---- "from the innermost out ...; then, ... from the outermost in"

    private static void order() {
        String d = E + "($define! tell ($lambda (n) ($lambda (v d) ($sequence (show n) v)))) "
            + "($define! both ($lambda (n f) (guard-dynamic-extent (list (list root (tell (list n)))) f (list (list root (tell n))))))"
            + "(both 1 ($lambda () (both 2 ($lambda () (both 3 ($lambda () " + KEEP + "))))))";
        Tongue t = Tongue.with(d);
        t.is("(throw k 0)", "0");
        Tongue.due("in", t.out(), "(1)(2)(3)");
        t.is("(both 4 ($lambda () (both 5 ($lambda () (throw root 0)))))", "0");
        Tongue.due("out", t.out(), "54");
        t.is("(both 4 ($lambda () (both 5 ($lambda () (throw k 0)))))", "0");
        Tongue.due("out and in", t.out(), "54(1)(2)(3)");
        // What both have is neither left nor entered.
        t.is("(throw (extend-continuation k ($lambda () (both 6 ($lambda () (throw k 0))))) ())", "0");
        Tongue.due("in, then only the guard on top is left", t.out(), "(1)(2)(3)6");
        t.is("($define! first #t) (both 7 ($lambda () ($sequence (both 8 ($lambda () " + KEEP + "))"
            + " ($if first ($sequence ($set! e first #f) (both 9 ($lambda () (throw k 0)))) 1))))", "1");
        Tongue.due("from one to another within a third", t.out(), "9(8)");
    }

    /** "the value that comes is the value for the next one; the last one's comes to K" */
    private static void valuesOnTheWay() {
        String d = E + "($define! by ($lambda (n f) (guard-dynamic-extent (list (list root ($lambda (v d) (list v n)))) f (list (list root ($lambda (v d) (list n v)))))))"
            + "(list 0 (by 1 ($lambda () (by 2 ($lambda () " + KEEP + ")))))";
        Tongue t = Tongue.with(d);
        t.is("(throw k 7)", "(0 ((7 1) 2))");
        t.is("(by 3 ($lambda () (by 4 ($lambda () (throw root 7)))))", "(3 (4 7))");
        t.is("(by 3 ($lambda () (by 4 ($lambda () (throw k 7)))))", "(0 (((3 (4 7)) 1) 2))");
    }

    /** "an applicative that passes the list of its arguments to the continuation around the guard" */
    private static void waysOut() {
        String d = E + "($define! by ($lambda (f g) (guard-dynamic-extent () f (list (list root g))))) ";
        Tongue t = Tongue.with(d);
        t.is("(list 1 (by ($lambda () (throw root 7)) ($lambda (v d) (d))))", "(1 ())");
        t.is("(list 1 (by ($lambda () (throw root 7)) ($lambda (v d) (d v))))", "(1 (7))");
        t.is("(list 1 (by ($lambda () (throw root 7)) ($lambda (v d) (d v 8))))", "(1 (7 8))");
        t.is("(list 1 (by ($lambda () (throw root 7)) ($lambda (v d) (list 2 (apply d 9)))))", "(1 9)");
        // The others are not passed then, but those between the two ends of this passing are.
        t.is("(list 1 (by ($lambda () (list 2 (by ($lambda () (throw root 7)) ($lambda (v d) (d v))))) ($lambda (v d) (show v))))", "(1 (2 (7)))");
        Tongue.due("the outer guard is not left", t.out(), "");
        t.is("(list 1 (by ($lambda () (list 2 (by ($lambda () (throw root 7)) ($lambda (v d) (throw root (list v)))))) ($lambda (v d) (list 3 v))))", "(3 (7))");
        t.is("(list 1 (by ($lambda () (list 2 (by ($lambda () (throw root 7)) ($lambda (v d) (list v))))) ($lambda (v d) (list 3 v))))", "(3 (7))");
        // An interceptor goes on around its guard: its own guard does not see it.
        t.is("(list 1 (by ($lambda () (throw root 7)) ($lambda (v d) (throw root (list v)))))", "(7)");
        // Kept, it stays a way there.
        t.is("($define! w #f) (list 1 (by ($lambda () (throw root 7)) ($lambda (v d) ($sequence ($set! e w d) v))))", "7");
        t.is("(list 9 (w 4 5))", "(1 (4 5))");
    }

    /** "in a new environment without parents with a new list of the value and an applicative" */
    private static void environmentsAndLists() {
        Tongue t = Tongue.with(E);
        String g = "(guard-dynamic-extent () ($lambda () (throw root 7)) (list (list root G)))";
        t.is(g.replace("G", "(wrap ($vau x d ($binds? d car)))"), "#f");
        t.is(g.replace("G", "(wrap ($vau x d (eq? d e)))"), "#f");
        t.is(g.replace("G", "($lambda x ($sequence (set-car! x 1) (set-cdr! x ()) x))"), "(1)");
        t.is(g.replace("G", "($lambda (v d) (list v (applicative? d) (operative? (unwrap d))))"), "(7 #t #t)");
        t.is(g.replace("G", "cons"), "(7 . #applicative)");
        t.fails(g.replace("G", "car"), "bad arguments: car");
        t.fails(g.replace("G", "($lambda (v) v)"), "mismatch");
        // "the combiner below the applicative": of an applicative of an applicative it evaluates what it is given, there.
        t.is(g.replace("G", "(wrap list)"), "(7 #applicative)");
        t.fails("(guard-dynamic-extent () ($lambda () (throw root ($quote car))) (list (list root (wrap list))))", "unbound: car");
    }

    private static void errorsOnTheWay() {
        Tongue t = Tongue.with(E);
        // A $guard within the guard has been left, one around it takes the error.
        t.fails("(guard-dynamic-extent () ($lambda () ($guard (throw root 7) ($lambda (m) 1))) (list (list root car)))", "bad arguments: car");
        t.is("(list ($guard (guard-dynamic-extent () ($lambda () (throw root 7)) (list (list root car))) ($lambda (m) m)))", "(\"bad arguments: car\")");
        // An error is not passed: no guard sees it.
        t.is("(list ($guard (guard-dynamic-extent () ($lambda () (car 1)) (list (list root ($lambda (v d) (show v))))) ($lambda (m) m)))", "(\"bad arguments: car\")");
        Tongue.due("no exit", t.out(), "");
        t.fails("(guard-dynamic-extent () ($lambda () (car 1)) (list (list root ($lambda (v d) (show v)))))", "bad arguments: car");
        Tongue.due("no exit", t.out(), "");
    }

    // ---- what it costs: "What is passed through a guard counts: the applicative, the environment, then the list."

    private static void costs() {
        String f = "($define! f ($lambda () (throw root 5)))";
        Tongue.costs(f, "(guard-dynamic-extent () f (list (list root list)))", "(5 #applicative)", 17, 22);
        Tongue.costs(f, "(guard-dynamic-extent () f ())", "5", 9, 4 + 3 + 1 + 2);
        Tongue.costs(f, "(guard-dynamic-extent () f (list (list root ($lambda (v d) v))))", "5", 17 + 2, 22 + 5 + 2 + 3);
        String in = E + "(guard-dynamic-extent (list (list root list)) ($lambda () " + KEEP + ") ())";
        Tongue.costs(in, "(throw k 5)", "(5 #applicative)", 4, 9);
        String two = E + "(guard-dynamic-extent (list (list root list)) ($lambda () (guard-dynamic-extent (list (list root list)) ($lambda () " + KEEP + ") ())) ())";
        Tongue.costs(two, "(throw k 5)", "((5 #applicative) #applicative)", 4, 13);
        // Loose pairs of the entries, of their clauses, of the exits and theirs.
        String c = "($define! c (list root list)) ($define! l (list c c)) ($define! f ($lambda () 5))";
        Tongue.costs(c, "(guard-dynamic-extent l f (list c))", "5", 17, 11);
        Tongue.costs(c, "(guard-dynamic-extent () f l)", "5", 5 + 2 + 4 + 1, 4 + 3 + 1);
        Tongue.costs(c, "(guard-dynamic-extent l 5 l)", "!bad arguments: guard-dynamic-extent", 5, 7);
        Tongue.costs(c, "(guard-dynamic-extent l f c)", "!bad arguments: guard-dynamic-extent", 5, 7);
        Tongue.costs(c, "(guard-dynamic-extent c f l)", "!bad arguments: guard-dynamic-extent", 5, 7);
        Tongue.costs("", "(call/cc list)", "(#continuation)", 5, 6);
        Tongue.costs("", "(call/cc (unwrap list))", "(#continuation)", 2 + 3, 2 + 2 + 1 + 1 + 2);
        Tongue.costs("", "(map list ($quote (1 2)))", "((1) (2))", 5, 3 + 2 + 2 + 2 + 2 + 2);
        Tongue.costs("", "(continuation->applicative root)", "#applicative", 3, 4);
        Tongue.costs("", "(extend-continuation root list)", "#continuation", 4, 6);
        Tongue.costs("", "(make-dynamic)", "(#applicative #applicative)", 2, 5);
        Tongue.costs("", "(make-static)", "(#applicative #applicative)", 2, 5);
        Tongue.costs("", "(make-capsule)", "(#applicative #applicative #applicative)", 2, 7);
    }

    /** The ends of fuel and of MADE in the midst of a passing. */
    private static void ends() {
        String d = E + "($define! g ($lambda (v d) (list v 1))) (guard-dynamic-extent (list (list root g)) ($lambda () (guard-dynamic-extent (list (list root g)) ($lambda () "
            + KEEP + ") ())) ())";
        // Four till it is thrown; each entry evaluates a body of four more.
        Tongue.costs(d, "(throw k 5)", "((5 1) 1)", 4 + 4 + 4, 3 + 2 + 2 * (4 + 1 + 2 + 2));
    }

    // ---- "(Frames are the same ones, not equal ones.)"

    private static void sameFrames() {
        Tongue t = Tongue.with(E + "($define! here ($lambda () (list 0 " + KEEP + "))) (here) ($define! a k) (here) ($define! b k)");
        String g = "(call/cc ($lambda (out) (guard-dynamic-extent () ($lambda () (throw TO 1)) (list (list IN ($lambda (v d) 2))))))";
        t.is(g.replace("TO", "a").replace("IN", "b"), "(0 1)");
        t.is(g.replace("TO", "a").replace("IN", "a"), "(0 2)");
        t.is(g.replace("TO", "out").replace("IN", "a"), "1");
        t.is(g.replace("TO", "out").replace("IN", "out"), "2");
        // One continuation taken twice is two values of the same frames.
        t.is("(call/cc ($lambda (j) (call/cc ($lambda (i) (list (eq? i j) (guard-dynamic-extent () ($lambda () (throw i 1)) (list (list j ($lambda (v d) 2)))))))))", "2");
        t.is("(list (call/cc ($lambda (j) (call/cc ($lambda (i) (eq? i j))))))", "(#f)");
    }

    private static void extendedOnes() {
        Tongue t = Tongue.with(E + "($define! f ($lambda x x)) ($define! a (extend-continuation root f)) ($define! b (extend-continuation root f))");
        String g = "(guard-dynamic-extent () ($lambda () (throw TO (list 1))) (list (list IN ($lambda (v d) (list 2)))))";
        t.is(g.replace("TO", "a").replace("IN", "a"), "(2)");
        t.is(g.replace("TO", "a").replace("IN", "b"), "(1)");
        t.is(g.replace("TO", "a").replace("IN", "root"), "(2)");
        t.is(g.replace("TO", "root").replace("IN", "a"), "(1)");
        t.is("(eq? a b)", "#f");
        // Any value, also one that is no list.
        t.is("(throw a 5)", "5");
        t.is("(throw (extend-continuation a ($lambda x (list x 6))) 5)", "(5 6)");
        t.fails("(throw (extend-continuation root ($lambda (x) x)) 5)", "mismatch");
        t.is("(list 1 (call/cc ($lambda (k) (throw (extend-continuation k +) (list 2 3)))))", "(1 5)");
        // Combined in a new environment each time, or in e.
        t.is("(throw (extend-continuation root (wrap ($vau x d ($binds? d car)))) ())", "#f");
        t.is("(throw (extend-continuation root (wrap ($vau x d (eq? d e))) e) ())", "#t");
    }

    /** "lists and clauses as they stand": entries and exits, each of them, the first and the others. */
    private static void clausesAsTheyStand() {
        String d = E + "($define! h (extend-continuation root list)) ($define! c1 (list h ($lambda (v d) 1))) ($define! c2 (list root ($lambda (v d) (list v 2))))"
            + " ($define! l (list c1 c2)) ";
        String[] changes = {"(set-car! c2 5)", "(set-car! c2 h)", "(set-car! (cdr c2) ($lambda (v d) 9))", "(set-cdr! c2 ())", "(set-cdr! l ())", "(set-car! (cdr l) c1)", "(set-car! c1 root)",
            "(set-car! (cdr c1) 5)", "(set-car! l c2)", "(set-cdr! (cdr l) 5)"};
        for (String change : changes) {
            Tongue t = Tongue.with(d);
            t.is("(guard-dynamic-extent () ($lambda () ($sequence " + change + " (throw root 0))) l)", "(0 2)");
            Tongue u = Tongue.with(d + "(guard-dynamic-extent l ($lambda () " + KEEP + ") ())" + change);
            u.is("(throw k 0)", "(0 2)");
        }
    }

    // ---- make-dynamic and make-static

    private static void dynamics() {
        Tongue t = Tongue.with(E + "($define! (in out) (make-dynamic)) ($define! (in2 out2) (make-dynamic))");
        t.fails("(out)", "unbound: dynamic");
        t.is("(in 1 out)", "1");
        t.is("(in 1 ($lambda () (list (out) (in 2 out) (out))))", "(1 2 1)");
        t.is("(in 1 ($lambda () (in 2 ($lambda () (in 3 out)))))", "3");
        t.fails("(in 1 out2)", "unbound: dynamic");
        t.is("(in 1 ($lambda () (in2 2 ($lambda () (list (out) (out2))))))", "(1 2)");
        t.fails("(in 1 ($lambda () 5)) (out)", "unbound: dynamic");
        t.is("(in 1 ($lambda () ($guard (in 2 ($lambda () (error))) ($lambda (m) (out)))))", "1");
        // With the frames it goes and comes.
        t.run("(in 4 ($lambda () (list (out) " + KEEP + " (out))))");
        t.is("(throw k 9)", "(4 9 4)");
        t.is("(in 5 ($lambda () (throw k 9)))", "(4 9 4)");
        t.fails("(call/cc ($lambda (c) (in 5 ($lambda () (throw c 1))))) (out)", "unbound: dynamic");
        // An interceptor is around its guard.
        t.is("(in 1 ($lambda () (guard-dynamic-extent () ($lambda () (in 2 ($lambda () (throw root 0)))) (list (list root ($lambda (v d) (out)))))))", "1");
        t.fails("(guard-dynamic-extent () ($lambda () (in 2 ($lambda () (throw root 0)))) (list (list root ($lambda (v d) (out)))))", "unbound: dynamic");
        // f is combined with () in E.
        t.is("(in 1 ($vau x d (list x (eq? d e))))", "(() #t)");
        t.is("(in () out)", "()");
        t.is("(in out ($lambda () (applicative? (out))))", "#t");
    }

    private static void statics() {
        Tongue t = Tongue.with(E + "($define! (in out) (make-static)) ($define! (in2 out2) (make-static))");
        t.fails("(out)", "unbound: static");
        t.is("(eval ($quote (out)) (in 1 e))", "1");
        t.is("(eval ($quote (out)) (in 1 (in 2 e)))", "1");
        t.is("(eval ($quote (list (out) (out2))) (in 1 (in2 2 e)))", "(1 2)");
        t.fails("(eval ($quote (out2)) (in 1 e))", "unbound: static");
        t.is("(eval ($quote ($let ((x 1)) (($lambda () (out))))) (in 1 e))", "1");
        t.is("($define! c (in 1 e)) (list (eq? c e) (eval (list out) c) (eval ($quote k) c))", "(#f 1 #f)");
        t.is("(eval (list out) (make-environment (make-environment) (in 2 e) (in 3 e)))", "2");
        // No name means it, nor does it change what names mean.
        t.is("(eval ($quote (list ($binds? ($current) in out) ($binds? ($current) key))) c)", "(#t #f)");
        t.is("(eval ($quote ($sequence ($define! out2 7) out2)) c)", "7");
        t.fails("(apply out ())", "unbound: static");
        t.is("(apply out () c)", "1");
        t.is("(eval ($quote (map (wrap ($vau x d (eval (list out) d))) (list 1))) c)", "(1)");
    }

    // ---- "Combiners that are given as values and combined get E as it is where they are given (of apply: as said)."

    private static void environmentsOfCombiners() {
        Tongue t = Tongue.with(E + "($define! here ($vau x d (eq? d e))) ($define! names ($vau x d ($binds? d car)))");
        t.is("(list (call/cc here) ($guard (error) here) (guard-dynamic-extent () here ()) ((car (make-dynamic)) 1 here) (map (wrap here) (list 1)))", "(#t #t #t #t (#t))");
        t.is("($let () (list (call/cc here) ($guard (error) here) (guard-dynamic-extent () here ()) ((car (make-dynamic)) 1 here) (map (wrap here) (list 1))))",
            "(#f #f #f #f (#f))");
        t.is("($let () (list (call/cc names) ($guard (error) names) (guard-dynamic-extent () names ()) ((car (make-dynamic)) 1 names) (map (wrap names) (list 1))))",
            "(#t #t #t #t (#t))");
        t.is("(list (apply (wrap here) ()) (apply (wrap names) ()) (apply (wrap here) () e) (apply (wrap names) () (make-environment)))", "(#f #f #t #f)");
        // By apply they get what apply gives.
        t.is("(list (apply call/cc (list here)) (apply call/cc (list here) e) (apply map (list (wrap here) (list 1))) (apply map (list (wrap here) (list 1)) e))", "(#f #t (#f) (#t))");
        t.is("(list (apply guard-dynamic-extent (list () names ())) (apply guard-dynamic-extent (list () names ()) e))", "(#f #t)");
    }
}
