/** The boundary cases of the ground's OPERATIVES: how many operands, what is no truth, what is looked at when. */
public final class EdgesOfOperativesTest {
    public static void main(String[] args) {
        numbersOfOperands();
        anyNumberOfOperands();
        operandsThatAreNoList();
        truthsOfIf();
        definitions();
        placesOfSet();
        combinersOfVau();
        lets();
        conds();
        truthsOfLogic();
        bindsLooksAtAll();
        currents();
        guards();
        whatGuardsDontTake();
        promises();
        refusedOperandsAreNotEvaluated();
        Tongue.close();
    }

    // ---- "another number, or operands that are no list: bad operands: NAME"

    private static void numbersOfOperands() {
        String[] right = {"($if #t 1 2)", "($define! a 1)", "($set! ($current) a 1)", "($quote a)", "($current)", "($guard 1 car)", "($lazy 1)",
            "($vau a #ignore)", "($lambda a)", "($let ())", "($binds? ($current))"};
        String[] values = {"1", "#inert", "#inert", "a", "#env", "1", "#promise", "#operative", "#applicative", "#inert", "#t"};
        for (int i = 0; i < right.length; i++) {
            Tongue.fresh(right[i], values[i]);
        }
        String[] names = {"$if", "$define!", "$set!", "$quote", "$current", "$guard", "$lazy"};
        int[] due = {3, 2, 3, 1, 0, 2, 1};
        for (int i = 0; i < names.length; i++) {
            for (int n = 0; n < 6; n++) {
                if (n != due[i]) {
                    Tongue.freshFails("(" + names[i] + " nothing".repeat(n) + ")", "bad operands: " + names[i]);
                }
            }
            Tongue.freshFails("(" + names[i] + " 1".repeat(1000) + ")", "bad operands: " + names[i]);
        }
        Tongue.freshFails("($vau)", "bad operands: $vau");
        Tongue.freshFails("($vau a)", "bad operands: $vau");
        Tongue.freshFails("($lambda)", "bad operands: $lambda");
        Tongue.freshFails("($let)", "bad operands: $let");
        Tongue.freshFails("($binds?)", "bad operands: $binds?");
    }

    /** "those ... any number" */
    private static void anyNumberOfOperands() {
        for (int n : new int[] {0, 1, 2, 3, 1000}) {
            Tongue.fresh("($sequence" + " 1".repeat(n) + ")", n == 0 ? "#inert" : "1");
            Tongue.fresh("($and?" + " #t".repeat(n) + ")", "#t");
            Tongue.fresh("($or?" + " #f".repeat(n) + ")", "#f");
            int clauses = Math.min(n, 500);
            Tongue.fresh("($cond" + " (#f 1)".repeat(clauses) + ")", "#inert");
            int rest = Math.min(n, 997);
            Tongue.fresh("(($vau #ignore #ignore" + " 1".repeat(rest) + "))", n == 0 ? "#inert" : "1");
            Tongue.fresh("(($lambda #ignore" + " 1".repeat(rest) + "))", n == 0 ? "#inert" : "1");
            Tongue.fresh("($let ()" + " 1".repeat(rest) + ")", n == 0 ? "#inert" : "1");
            Tongue.fresh("($binds? ($current)" + " car".repeat(rest) + ")", "#t");
        }
    }

    private static void operandsThatAreNoList() {
        for (String name : new String[] {"$if", "$define!", "$set!", "$vau", "$lambda", "$sequence", "$let", "$cond", "$and?", "$or?", "$quote", "$binds?",
            "$current", "$guard", "$lazy"}) {
            for (String operands : new String[] {"5", "a", "\"s\"", "#inert", "#t", "(1 . 2)", "(a #ignore . 2)", "(a #ignore 1 . 2)", "#0=(1 . #0#)"}) {
                Tongue.freshFails("(" + name + " . " + operands + ")", "bad operands: " + name);
            }
            Tongue.freshFails("(" + name + " 1".repeat(1001) + ")", "bad operands: " + name);
        }
    }

    // ---- "$if t a b: t a truth (else not a truth: V), then a or b"

    private static void truthsOfIf() {
        Tongue.fresh("($if #t 1 nothing)", "1");
        Tongue.fresh("($if #f nothing 2)", "2");
        String[] values = {"1", "0", "\"a\"", "\"\"", "()", "#inert", "#ignore", "(list 1)", "car", "$if", "($quote a)", "root", "($current)", "($lazy 1)", "1/2"};
        String[] texts = {"1", "0", "\"a\"", "\"\"", "()", "#inert", "#ignore", "(1)", "#applicative", "#operative", "a", "#continuation", "#env", "#promise", "1/2"};
        for (int i = 0; i < values.length; i++) {
            String message = "not a truth: " + texts[i];
            Tongue.freshFails("($if " + values[i] + " nothing nothing)", message);
            Tongue.freshFails("($cond (" + values[i] + " nothing))", message);
            Tongue.freshFails("($cond (#f 1) (" + values[i] + "))", message);
            Tongue.freshFails("($and? " + values[i] + ")", message);
            Tongue.freshFails("($and? " + values[i] + " nothing)", message);
            Tongue.freshFails("($and? #t " + values[i] + ")", message);
            Tongue.freshFails("($or? " + values[i] + ")", message);
            Tongue.freshFails("($or? #f " + values[i] + " nothing)", message);
            Tongue.fresh("($and? #f " + values[i] + ")", "#f");
            Tongue.fresh("($or? #t " + values[i] + ")", "#t");
            Tongue.fresh("($cond (#t 5) (" + values[i] + " 1))", "5");
        }
    }

    private static void definitions() {
        Tongue t = new Tongue();
        t.is("($define! a 1)", "#inert");
        t.is("a", "1");
        t.is("($define! a 2) a", "2");
        t.fails("($define! a nothing)", "unbound: nothing");
        t.is("a", "2");
        // The value is there ahead of the matching, so the old one is meant in it.
        t.is("($define! a (+ a 1)) a", "3");
        // E is where it is combined: the child keeps its own.
        t.is("(list ($let () ($define! a 9) a) a)", "(9 3)");
        t.is("(($lambda (b) ($define! b 5) b) 4)", "5");
        t.is("($define! (a b) (list 7 a)) (list a b)", "(7 3)");
    }

    /** "$set! e tree x: e is evaluated (an environment, else bad arguments: $set!), then x in E, then matched in e's" */
    private static void placesOfSet() {
        for (String e : new String[] {"5", "car", "()", "#inert", "\"e\"", "($quote e)", "root"}) {
            Tongue t = new Tongue();
            t.fails("($set! " + e + " a (show 1))", "bad arguments: $set!");
            Tongue.due("x is not evaluated", t.x.out(), 0);
        }
        Tongue t = Tongue.with("($define! e (make-environment)) ($define! a 1)");
        t.fails("($set! nothing a 2)", "unbound: nothing");
        t.is("($set! e a (+ a 1))", "#inert");
        t.is("(list a (eval ($quote a) e))", "(1 2)");
        t.fails("($set! e b nothing)", "unbound: nothing");
        t.is("($binds? e b)", "#f");
        t.fails("($set! e (b c) (list 3))", "mismatch");
        t.is("(list ($binds? e b) ($binds? e c) ($binds? ($current) b))", "(#t #f #f)");
        // The binding is e's own, though its parent has one.
        t.is("($define! f (make-environment e)) ($set! f a 5) (list (eval ($quote a) e) (eval ($quote a) f))", "(2 5)");
    }

    private static void combinersOfVau() {
        Tongue t = Tongue.with("($define! e ($current))");
        t.is("(($vau x d (eq? d e)))", "#t");
        t.is("(($vau x d (eq? d ($current))))", "#f");
        t.is("($let ((y 1)) (($vau x d (eval ($quote y) d))))", "1");
        t.is("(($vau x #ignore x) . 5)", "5");
        t.is("(($vau x #ignore x))", "()");
        t.is("(($vau (x) d x) nothing)", "nothing");
        t.fails("(($lambda (x) x) nothing)", "unbound: nothing");
        t.is("(($lambda x x) 1 2)", "(1 2)");
        t.is("(list (operative? ($vau x d)) (applicative? ($lambda x)) (operative? (unwrap ($lambda x))))", "(#t #t #t)");
        t.is("((unwrap ($lambda x x)) a b)", "(a b)");
        // It ignores its environment; where it was made is the parent.
        t.is("($define! n 1) ($define! f ($let ((n 2)) ($lambda () n))) ($let ((n 3)) (f))", "2");
    }

    /** "(a list of lists of two, else bad operands: $let; trees may have the same symbol: the later one stands)" */
    private static void lets() {
        for (String list : new String[] {"5", "a", "(5)", "(a)", "((a))", "((a 1 2))", "((a . 1))", "((a 1) ())", "((a 1) . 5)", "((a 1) (b))", "(() (a 1))",
            "((a 1 . 2))", "#0=((a 1) . #0#)", "(#0=(a . #0#))"}) {
            Tongue.freshFails("($let " + list + " nothing)", "bad operands: $let");
        }
        Tongue.fresh("($let () 5)", "5");
        Tongue.fresh("($let ((a 1)) a)", "1");
        Tongue.fresh("($let ((a 1) (a 2) (a 3)) a)", "3");
        Tongue.fresh("($let (((a b) (list 1 2)) (b 3)) (list a b))", "(1 3)");
        Tongue.fresh("($let ((b 3) ((a b) (list 1 2))) (list a b))", "(1 2)");
        Tongue t = Tongue.with("($define! a 1)");
        t.is("($let ((a 2) (b a)) (list a b))", "(2 1)");
        t.is("($let ((a (show 1)) (b (show 2)) (c (show 3))) 4)", "4");
        Tongue.due("in order", t.out(), "123");
        t.fails("($let ((a (show 1)) (() (show 2))) (show 3))", "mismatch");
        Tongue.due("all of them ahead of the matching", t.out(), "12");
        // One environment, the child of E.
        t.is("($define! e ($current)) ($let ((d 1)) (eq? e ($current)))", "#f");
        t.is("($let ((d 1)) ($define! x 2) (list d x a))", "(1 2 1)");
        t.is("($binds? e x)", "#f");
    }

    /** "(each a list, not empty, looked at first: else bad operands: $cond)" */
    private static void conds() {
        for (String clause : new String[] {"()", "5", "a", "\"s\"", "(#t . 5)", "(#t 1 . 2)", "#0=(#t . #0#)"}) {
            Tongue t = new Tongue();
            t.fails("($cond " + clause + ")", "bad operands: $cond");
            t.fails("($cond ((show #t) (show 1)) " + clause + ")", "bad operands: $cond");
            Tongue.due("nothing was evaluated", t.x.out(), 0);
        }
        Tongue.fresh("($cond)", "#inert");
        Tongue.fresh("($cond (#f))", "#inert");
        Tongue.fresh("($cond (#t))", "#inert");
        Tongue.fresh("($cond (#f 1) (#t 2) (#t 3))", "2");
        Tongue.fresh("($cond (#f nothing) (#t 2) (nothing 3))", "2");
        Tongue.freshFails("($cond (#f 1) (nothing 2))", "unbound: nothing");
    }

    /** "truths (each, else not a truth), till one decides (#t, #f of none); the last one's value is asked, too" */
    private static void truthsOfLogic() {
        String[] texts = {"($and?)", "($or?)", "($and? #t)", "($and? #f)", "($or? #t)", "($or? #f)", "($and? #t #t)", "($and? #t #f)", "($or? #f #f)", "($or? #f #t)"};
        String[] values = {"#t", "#f", "#t", "#f", "#t", "#f", "#t", "#f", "#f", "#t"};
        for (int i = 0; i < texts.length; i++) {
            Tongue.fresh(texts[i], values[i]);
        }
        Tongue t = new Tongue();
        t.is("($and? ($sequence (show 1) #t) ($sequence (show 2) #f) ($sequence (show 3) #t))", "#f");
        Tongue.due("till one decides", t.out(), "12");
        t.is("($or? ($sequence (show 1) #f) ($sequence (show 2) #t) ($sequence (show 3) #f))", "#t");
        Tongue.due("till one decides", t.out(), "12");
        t.is("($and? #t ($sequence (show 1) #t))", "#t");
        Tongue.due("the last one, too", t.out(), "1");
    }

    /** "e is evaluated: an environment, and all s symbols (looked at then; else bad arguments: $binds?)" */
    private static void bindsLooksAtAll() {
        Tongue t = Tongue.with("($define! e (make-environment)) ($set! e a 1) ($set! e b 2)");
        t.is("(list ($binds? e) ($binds? e a) ($binds? e a b) ($binds? e b a b) ($binds? e c) ($binds? e a c) ($binds? e c a))", "(#t #t #t #t #f #f #f)");
        for (String s : new String[] {"5", "\"a\"", "()", "(a)", "#t", "#ignore"}) {
            t.fails("($binds? e " + s + ")", "bad arguments: $binds?");
            t.fails("($binds? e a " + s + ")", "bad arguments: $binds?");
            t.fails("($binds? e c " + s + ")", "bad arguments: $binds?");
            t.fails("($binds? e " + s + " a)", "bad arguments: $binds?");
            t.fails("($binds? nothing " + s + ")", "unbound: nothing");
            t.fails("($binds? (show 1) " + s + ")", "bad arguments: $binds?");
            Tongue.due("e was evaluated ahead of the look", t.out(), "1");
        }
        for (String e : new String[] {"5", "car", "()", "root", "\"e\""}) {
            t.fails("($binds? " + e + ")", "bad arguments: $binds?");
            t.fails("($binds? " + e + " a)", "bad arguments: $binds?");
        }
        // What a parent means counts, a key does not.
        t.is("(list ($binds? (make-environment e) a) ($binds? ($current) car) ($binds? (make-environment) car))", "(#t #t #f)");
    }

    private static void currents() {
        Tongue t = Tongue.with("($define! e ($current))");
        t.is("(list (eq? e ($current)) (eq? e ($let () ($current))) (eq? e (($vau () d d))) (eq? e (($lambda () ($current)))))", "(#t #f #t #f)");
        t.is("($let () (eq? ($current) ($current)))", "#t");
        t.is("(eq? (eval ($quote ($current)) e) e)", "#t");
    }

    // ---- $guard

    private static void guards() {
        Tongue t = Tongue.with("($define! e ($current))");
        t.is("($guard 5 car)", "5");
        for (String h : new String[] {"5", "()", "\"h\"", "#t", "e", "root"}) {
            t.run("($guard (show 1) " + h + ")");
            Tongue.due("state of a handler " + h, t.x.state(), 1);
            Tongue.due("told of a handler " + h, t.told().startsWith("not a combiner: ") ? 1 : 0, 1);
            Tongue.due("x was not evaluated", t.x.out(), 0);
        }
        t.fails("($guard (show 1) nothing)", "unbound: nothing");
        Tongue.due("h comes ahead of x", t.x.out(), 0);
        // Each message that there is.
        String[] texts = {"nothing", "(5)", "(car . 5)", "($if)", "(car)", "($if 5 1 2)", "($define! () 1)", "($lambda 5)", "(/ 0)", "(expt 2 2048)", "(error \"e\" 1)",
            "((cadr (make-dynamic)))", "((cadr (make-static)))"};
        String[] messages = {"unbound: nothing", "not a combiner: 5", "bad operands: 5", "bad operands: $if", "bad arguments: car", "not a truth: 5", "mismatch",
            "bad tree", "divided by zero", "too great", "e 1", "unbound: dynamic", "unbound: static"};
        for (int i = 0; i < texts.length; i++) {
            t.fails(texts[i], messages[i]);
            t.is("($guard " + texts[i] + " ($lambda (m) m))", "\"" + messages[i] + "\"");
            t.is("(list 1 ($guard (list 2 " + texts[i] + ") ($lambda (m) m)) 3)", "(1 \"" + messages[i] + "\" 3)");
        }
        // A new list of one string, in E.
        t.is("($guard (error \"m\") ($vau x d (list x (eq? d e) (pair? (cons 1 x)))))", "((\"m\") #t #t)");
        t.is("($let ((y 1)) ($guard (error \"m\") ($vau x d (eval ($quote y) d))))", "1");
        t.is("($guard (error \"m\") list)", "(\"m\")");
        t.is("(string-length ($guard (error) ($lambda (m) m)))", "0");
    }

    /** "(errors while h is worked out, or goes on, are not taken by this one; fuel or MADE that end are no errors)" */
    private static void whatGuardsDontTake() {
        Tongue t = new Tongue();
        t.fails("($guard 1 (error \"h\"))", "h");
        t.fails("($guard (error \"x\") ($lambda (m) (error m \"h\")))", "x h");
        t.is("($guard ($guard 1 (error \"h\")) ($lambda (m) (string-append m \"!\")))", "\"h!\"");
        t.is("($guard ($guard (error \"x\") ($lambda (m) (error m \"h\"))) ($lambda (m) (string-append m \"!\")))", "\"x h!\"");
        t.fails("($guard (error \"x\") ($lambda () 1))", "mismatch");
        t.fails("($guard (error \"x\") car)", "bad arguments: car");
        // The innermost one takes it, and only while x goes on.
        t.is("($guard ($guard (error \"x\") ($lambda (m) 1)) ($lambda (m) 2))", "1");
        t.fails("($guard 1 ($lambda (m) m)) (error \"behind\")", "behind");
        t.fails("($sequence ($guard 1 ($lambda (m) m)) (error \"behind\"))", "behind");
        t.fails("(($guard ($lambda () (error \"later\")) ($lambda (m) m)))", "later");
        // One that was left by throw takes nothing, one that was come back to does.
        t.fails("($define! k #f) (call/cc ($lambda (out) ($guard (throw out 1) ($lambda (m) 2)))) (error \"left\")", "left");
        t.run("($define! e ($current)) ($guard (list (call/cc ($lambda (c) ($sequence ($set! e k c) 1)))) ($lambda (m) (list m 7)))");
        t.is("(throw (extend-continuation k ($lambda () (error \"again\"))) ())", "(\"again\" 7)");
        for (int fuel = 1; fuel < 30; fuel++) {
            Tongue u = new Tongue();
            u.run("($guard ($while #t 1) ($lambda (m) (show \"taken\")))", fuel);
            Tongue.due("the end of the fuel", u.x.state(), 2);
            Tongue.due("is no error", u.x.out(), 0);
        }
        Tongue v = Tongue.left(30, "");
        v.run("($guard (list \"12345678901234567890123456789012345678901234567890\" (make-environment) (list 1 2 3 4 5 6 7 8 9 10)) ($lambda (m) 1))");
        Tongue.due("nor is the end of MADE", v.x.state(), 3);
    }

    private static void promises() {
        Tongue t = new Tongue();
        t.is("($lazy (show 1))", "#promise");
        Tongue.due("not evaluated", t.x.out(), 0);
        t.is("($let ((y 4)) ($define! p ($lazy y)) ($let ((y 5)) (force p)))", "4");
        t.is("(eq? ($lazy 1) ($lazy 1))", "#f");
        t.is("(promise? ($lazy nothing))", "#t");
        t.fails("(force ($lazy nothing))", "unbound: nothing");
    }

    /** What is refused for its number evaluates none of its operands, and binds nothing. */
    private static void refusedOperandsAreNotEvaluated() {
        Tongue t = Tongue.with("($define! a 1)");
        for (String text : new String[] {"($if (show 1) 2)", "($define! a (show 1) 2)", "($set! (show 1) a)", "($guard (show 1))", "($let ((a (show 1)) (b)) 1)",
            "($cond ((show 1) 2) ())", "($sequence (show 1) . 2)", "($and? (show #t) . #f)", "($binds? . 5)", "($lazy (show 1) 2)", "($define! (a a) (show 1))",
            "((car . (show 1)) 2)", "(car (show 1) . 2)"}) {
            int bindings = t.x.bindings();
            t.run(text);
            Tongue.due("state of " + text, t.x.state(), 1);
            Tongue.due("out of " + text, t.x.out(), 0);
            Tongue.due("bindings of " + text, t.x.bindings(), bindings);
        }
        t.is("a", "1");
    }
}
