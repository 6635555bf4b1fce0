/** The boundary cases of EVALUATING, MATCHING and TREES: what costs fuel and when, how many parts, what is mismatched. */
public final class EdgesOfEvaluatingTest {
    private static final String E = "($define! e ($current)) ";

    public static void main(String[] args) {
        plainCosts();
        compoundCosts();
        looseOperands();
        operandsOfTheWrongSort();
        costsOfLet();
        costsOfCond();
        costsOfTrees();
        belowApplicatives();
        applied();
        extended();
        passers();
        handlers();
        partsOfTrees();
        partsOfTreesOfLet();
        symbolsOfTrees();
        badLeaves();
        treesAheadOfAll();
        matching();
        partOfAMatch();
        sequences();
        inPlaceOfTheWhole();
        withAFrame();
        asTheyStand();
        Tongue.close();
    }

    /** An object whose call costs four of fuel and five of MADE till it is evaluated, which takes two more. */
    private static void call(String definitions, String call, String want, int fuel, int made) {
        Tongue.costs(E + definitions + "($define! call " + call + ")", "(eval call e)", want, 6 + fuel, 5 + made);
    }

    // ---- "EVALUATING a value in an environment E takes one FUEL."

    private static void plainCosts() {
        Tongue.costs("", "5", "5", 1, 0);
        Tongue.costs("", "()", "()", 1, 0);
        Tongue.costs("", "#inert", "#inert", 1, 0);
        Tongue.costs("", "\"a\"", "\"a\"", 1, 2);
        Tongue.costs("", "car", "#applicative", 1, 0);
        Tongue.costs("", "1 2 3", "3", 3, 0);
        Tongue.costs("", "nothing", "!unbound: nothing", 1, 0);
        Tongue.costs("", "(nothing 1)", "!unbound: nothing", 2, 2);
        Tongue.costs("", "(5 1)", "!not a combiner: 5", 2, 2);
        Tongue.costs("", "((list 5) 1)", "!not a combiner: (5)", 4, 5);
        Tongue.costs("", "(list)", "()", 2, 1);
        Tongue.costs("", "(list 1 2)", "(1 2)", 4, 5);
        Tongue.costs("", "(list (list 1) 2)", "((1) 2)", 6, 8);
        Tongue.costs("", "($quote (a b))", "(a b)", 2, 4);
        Tongue.costs("", "(car 1)", "!bad arguments: car", 3, 3);
        Tongue.costs("", "(car)", "!bad arguments: car", 2, 1);
        Tongue.costs("", "(car 1 2)", "!bad arguments: car", 4, 5);
        Tongue.costs("", "(list 1 nothing 2)", "!unbound: nothing", 4, 4);
        Tongue.costs("", "($if #t 1 2)", "1", 4, 4);
        Tongue.costs("", "($if 5 1 2)", "!not a truth: 5", 3, 4);
    }

    private static void compoundCosts() {
        Tongue.costs("", "(($vau x #ignore x) 1 2)", "(1 2)", 4, 10);
        Tongue.costs("", "(($vau x e 1) 2)", "1", 4, 10);
        Tongue.costs("", "(($vau #ignore #ignore))", "#inert", 3, 6);
        Tongue.costs("", "(($vau x #ignore 1) . 5)", "1", 4, 5 + 1 + 2);
        Tongue.costs("", "(($lambda (x) x) 1)", "1", 5, 11);
        Tongue.costs("", "(($lambda (x . y) x y) 1 2)", "(2)", 7, 15);
        Tongue.costs("", "(($lambda (x y) x) 1)", "!mismatch", 4, 12);
        Tongue.costs("", "(($lambda () 1) 2)", "!mismatch", 4, 9);
        Tongue.costs("", "(($lambda ((x) y) 1) 2 3)", "!mismatch", 5, 14);
        Tongue.costs("", "((wrap $quote) (list))", "()", 1 + 3 + 2 + 1, 2 + 2 + 1 + 1 + 1 + 1);
    }

    /** "costs one FUEL for each of its pairs that is not fixed, one by one, when it has been seen that it is a list (of the right number)" */
    private static void looseOperands() {
        Tongue.costs(E + "($define! l (list 1 2 3))", "(eval (cons + l) e)", "6", 15, 14);
        Tongue.costs(E, "(eval (cons + ($quote (1 2 3))) e)", "6", 13, 19);
        Tongue.costs(E + "($define! h (cons 1 ($quote (2 3))))", "(eval (cons + h) e)", "6", 13, 14);
        call("", "(list $if #t 1 2)", "1", 3 + 2, 0);
        call("", "(cons $if (cons #t ($quote (1 2))))", "1", 1 + 2, 0);
        call("", "(list $quote (list 1 2 3))", "(1 2 3)", 1, 0);
        call("", "(list $sequence)", "#inert", 0, 0);
        call("", "(list $sequence 1 2 3)", "3", 3 + 3, 0);
        call("", "(list $and? #f #t)", "#f", 2 + 1, 0);
        call("", "(list $lazy 1)", "#promise", 1, 1);
        call("", "(list $binds? e ($quote e))", "#t", 2 + 1, 0);
        call("", "(list $guard 1 car)", "1", 2 + 2, 0);
        call("", "(list list 1 2)", "(1 2)", 2 + 2, 2);
        // What $vau makes does not take them: they are matched.
        call("($define! f ($vau x #ignore 5))", "(list f 1 2)", "5", 1, 2);
        call("($define! f ($lambda x 5))", "(list f 1 2)", "5", 2 + 2 + 1, 2 + 2);
        // Two applicatives, one within another: each of them takes its operands.
        call("", "(list (wrap list) 1 2)", "(1 2)", 2 + 2 + 2 + 2, 2 + 2);
        call("", "(list (wrap (wrap $quote)) 7)", "7", 1 + 1 + 1 + 1 + 1, 1 + 1);
    }

    private static void operandsOfTheWrongSort() {
        call("", "(list $if #t 1)", "!bad operands: $if", 0, 0);
        call("", "(list $if #t 1 2 3)", "!bad operands: $if", 0, 0);
        call("", "(cons $if 5)", "!bad operands: $if", 0, 0);
        call("", "(list* $if #t 1 2 3)", "!bad operands: $if", 0, 0);
        call("", "(list* $sequence 1 2)", "!bad operands: $sequence", 0, 0);
        call("", "(cons + 5)", "!bad operands: 5", 0, 0);
        call("", "(list* + 1 2)", "!bad operands: (1 . 2)", 0, 0);
        // Of an applicative the arguments are counted only when they are there.
        call("", "(list car 1 2)", "!bad arguments: car", 2 + 2, 2);
        call("", "(list car)", "!bad arguments: car", 0, 0);
    }

    /** "so do, behind that (and behind all of them have been seen to be right), the list of $let, then each (tree x)" */
    private static void costsOfLet() {
        call("", "(list $let (list (list ($quote x) 1) (list ($quote y) 2)) ($quote y))", "2", 2 + 2 + 4 + 0 + 3, 1 + 2);
        call("", "(list $let ($quote ((x 1) (y 2))) ($quote y))", "2", 2 + 3, 1 + 2);
        call("", "(list $let (list (list ($quote x) 1) ($quote (y 2))) ($quote y))", "2", 2 + 2 + 2 + 3, 1 + 2);
        String x = "(list (list ($quote x)) ($quote ($quote (7))))";
        call("", "(list $let (list " + x + " (list (list ($quote y) ($quote z)) ($quote ($quote (8 9))))) ($quote z))", "9",
            2 + 2 + 4 + 1 + 2 + 2 + 2 + 1, 1 + 3);
        // The trees one by one, behind the lists; none of the others is evaluated.
        call("", "(list $let (list " + x + " (list (list ($quote y) 5) 1)) 1)", "!bad tree", 2 + 2 + 4 + 1, 0);
        call("", "(list $let (list (list (list ($quote y) 5) 1) " + x + ") 1)", "!bad tree", 2 + 2 + 4, 0);
        // The list itself only when all of it is right.
        call("", "(list $let (list " + x + " (list ($quote y))) 1)", "!bad operands: $let", 2, 0);
        call("", "(list $let (list " + x + " (list ($quote y) 1 2)) 1)", "!bad operands: $let", 2, 0);
        call("", "(list $let (list " + x + " (cons ($quote y) 1)) 1)", "!bad operands: $let", 2, 0);
        call("", "(list $let (list " + x + " 5) 1)", "!bad operands: $let", 2, 0);
        call("", "(list $let (cons " + x + " 5) 1)", "!bad operands: $let", 2, 0);
        call("", "(list $let 5 1)", "!bad operands: $let", 2, 0);
        call("", "(list $let)", "!bad operands: $let", 0, 0);
        call("", "(cons $let 5)", "!bad operands: $let", 0, 0);
        call("", "(list $let ())", "#inert", 1, 1);
    }

    /** "... and each clause of $cond" */
    private static void costsOfCond() {
        call("", "(list $cond (list #f 1) (list #t 2))", "2", 2 + 4 + 3, 0);
        call("", "(list $cond ($quote (#f 1)) ($quote (#t 2)))", "2", 2 + 3, 0);
        call("", "(list $cond (list #t 1) (list #t 2 3 4))", "1", 2 + 2 + 4 + 2, 0);
        call("", "(list $cond (list #f 1) ())", "!bad operands: $cond", 2, 0);
        call("", "(list $cond (list #f 1) 5)", "!bad operands: $cond", 2, 0);
        call("", "(list $cond (list #f 1) (cons #t 5))", "!bad operands: $cond", 2, 0);
        call("", "(list $cond)", "#inert", 0, 0);
        call("", "(list $cond (list 5))", "!not a truth: 5", 1 + 1 + 1, 0);
    }

    /** "so does each pair of a tree that is not fixed, when the tree has been seen to be right" */
    private static void costsOfTrees() {
        String tree = "(list ($quote p) ($quote q))";
        String bad = "(list ($quote p) ($quote p))";
        String two = "($quote ($quote (1 2)))";
        call("", "(list $define! " + tree + " " + two + ")", "#inert", 2 + 2 + 2, 2);
        call("", "(list $define! " + bad + " ($quote nothing))", "!bad tree", 2, 0);
        call("", "(list $define! " + bad + ")", "!bad operands: $define!", 0, 0);
        call("", "(list $set! e " + tree + " " + two + ")", "#inert", 3 + 2 + 1 + 2, 2);
        call("", "(list $set! ($quote nothing) " + bad + " " + two + ")", "!bad tree", 3, 0);
        call("", "(list $vau " + tree + " #ignore 1)", "#operative", 3 + 2, 1);
        call("", "(list $vau " + bad + " #ignore 1)", "!bad tree", 3, 0);
        call("", "(list $vau " + bad + ")", "!bad operands: $vau", 0, 0);
        call("", "(list $lambda " + tree + " 1)", "#applicative", 2 + 2, 2);
        call("", "(list $lambda " + bad + " 1)", "!bad tree", 2, 0);
        // Cars and cdrs, however deep; what is fixed costs nothing.
        call("", "(list $lambda (cons (list ($quote p)) (cons #ignore ($quote (q r)))) 1)", "#applicative", 2 + 3, 2);
        call("", "(list $lambda ($quote (p (q r))) 1)", "#applicative", 2, 2);
    }

    /** "costs one FUEL for each of its pairs, fixed or not, one by one, ahead of all else that it does" */
    private static void belowApplicatives() {
        Tongue.costs("", "((unwrap list) 1 2)", "(1 2)", 6, 6);
        Tongue.costs("", "((unwrap list) a)", "(a)", 5, 5);
        Tongue.costs("", "((unwrap list))", "()", 4, 4);
        Tongue.costs(E + "($define! l (list 1 2 3))", "(eval (cons (unwrap +) l) e)", "6", 14, 14);
        Tongue.costs("", "((unwrap car) 1 2)", "!bad arguments: car", 6, 6);
        Tongue.costs("", "((unwrap car) . 5)", "!bad arguments: car", 4, 4);
        Tongue.costs("", "((unwrap list) 1 . 5)", "!bad arguments: list", 4, 5);
        Tongue.costs("($define! f (unwrap list))", "(f 1 2)", "(1 2)", 4, 3);
        // Below what is made by wrap stands the same one.
        Tongue.costs("($define! f (unwrap (wrap (unwrap list))))", "(f 1 2)", "(1 2)", 4, 3);
        // Not what these make, nor what $lambda made.
        Tongue.costs("($define! f (unwrap ($lambda x x)))", "(f 1 2)", "(1 2)", 3, 3 + 2);
        Tongue.costs("($define! f (unwrap (car (make-capsule))))", "(f 1)", "#capsule", 2, 2 + 1);
        Tongue.costs("($define! f (unwrap (cadr (make-dynamic))))", "(f)", "!unbound: dynamic", 2, 1);
        Tongue.costs("($define! f (unwrap caar))", "(f ((1)))", "1", 1 + 1 + 1 + 3 + 1, 4 + 2 + 2);
        // An operative of the ground is no such one: its operands are fixed.
        Tongue.costs("", "($sequence 1 2)", "2", 4, 3);
    }

    private static void applied() {
        Tongue.costs("", "(apply + (list 1 2))", "3", 10, 11);
        Tongue.costs(E, "(apply + (list 1 2) e)", "3", 11, 12);
        Tongue.costs("", "(apply + ())", "0", 5, 6);
        Tongue.costs("", "(apply list 5)", "!bad arguments: list", 5, 6);
        Tongue.costs("", "(apply list ($quote (1 . 2)))", "!bad arguments: list", 6, 3 + 2 + 1 + 2 + 1);
        Tongue.costs("", "(apply car ($quote (1 2)))", "!bad arguments: car", 8, 10);
        Tongue.costs("", "(apply 5 ())", "!bad arguments: apply", 4, 5);
        Tongue.costs("", "(apply $if ())", "!bad arguments: apply", 4, 5);
        Tongue.costs("", "(apply list () 5)", "!bad arguments: apply", 5, 7);
        Tongue.costs("", "(apply ($lambda x x) 5)", "5", 7, 13);
        Tongue.costs("", "(apply (wrap list) ($quote (1 2)))", "(1 2)", 1 + 1 + 3 + 2 + 1 + 2, 3 + 2 + 2 + 2 + 1 + 1 + 2 + 1 + 2);
    }

    private static void extended() {
        String d = E + "($define! x (extend-continuation root list)) ($define! y (extend-continuation root list e))";
        Tongue.costs(d, "(throw x (list 1 2))", "(1 2)", 10, 11);
        Tongue.costs(d, "(throw y (list 1 2))", "(1 2)", 10, 10);
        Tongue.costs(d, "(throw x ())", "()", 5, 6);
        Tongue.costs(d, "(throw x 5)", "!bad arguments: list", 5, 6);
        Tongue.costs("($define! x (extend-continuation root ($lambda x 7)))", "(throw x 5)", "7", 6, 3 + 2 + 1 + 2);
    }

    /** "(what is below it takes one FUEL first when it is combined with (), or as the value of a pair's car)" */
    private static void passers() {
        String d = "($define! a (continuation->applicative root))";
        Tongue.costs(d, "(a)", "()", 3, 1);
        Tongue.costs(d, "(a 1)", "(1)", 3, 3);
        Tongue.costs(d, "(a 1 2)", "(1 2)", 4, 5);
        Tongue.costs(d, "((unwrap a))", "()", 5, 4);
        Tongue.costs(d, "((unwrap a) 1)", "(1)", 5, 5);
        Tongue.costs(d, "((unwrap a) . 1)", "1", 5, 4);
        Tongue.costs(d, "(apply a ())", "()", 6, 6);
        Tongue.costs(d, "(apply a (list 1))", "(1)", 7, 9);
        Tongue.costs(d, "(apply a 5)", "5", 5, 6);
        Tongue.costs(d, "(map a (list 1))", "(1)", 6, 9);
        Tongue.costs(d + "($define! x (extend-continuation root a))", "(throw x ())", "()", 6, 6);
        Tongue.costs(d + "($define! x (extend-continuation root a))", "(throw x 5)", "5", 5, 6);
        Tongue.costs(d, "(call/cc a)", "(#continuation)", 3 + 1 + 1, 2 + 1 + 2 + 1);
        Tongue.costs(d, "(call/cc (unwrap a))", "(#continuation)", 2 + 3, 2 + 2 + 1 + 1 + 2);
        Tongue.costs(d, "(guard-dynamic-extent () a ())", "()", 5 + 1, 4 + 3);
        Tongue.costs(d, "($guard (error) a)", "(\"\")", 2 + 1 + 2 + 2, 3 + 1 + 2 + 1);
    }

    private static void handlers() {
        Tongue.costs("", "($guard (error) (unwrap list))", "(\"\")", 7, 9);
        Tongue.costs("", "($guard (error) list)", "(\"\")", 7, 7);
        Tongue.costs("", "($guard (error) $quote)", "\"\"", 2 + 1 + 2 + 1, 3 + 1 + 2);
        Tongue.costs("", "($guard 7 $quote)", "7", 4, 3);
        Tongue.costs("", "($guard nothing 5)", "!not a combiner: 5", 3, 3);
    }

    // ---- "TREES are made of these, at most 200 parts (pairs count, too), no symbol twice"

    /** A tree of so many pairs in a row, with so many leaves and an end. */
    private static String tree(int pairs, String leaf, String end) {
        return "(" + (leaf + " ").repeat(pairs) + ". " + end + ")";
    }

    private static void partsOfTrees() {
        for (String end : new String[] {"()", "#ignore", "z"}) {
            for (String leaf : new String[] {"#ignore", "()"}) {
                // A row of 99 pairs has 199 parts, one of 100 has 201.
                String right = tree(99, leaf, end);
                String wrong = tree(100, leaf, end);
                Tongue.fresh("($lambda " + right + ")", "#applicative");
                Tongue.freshFails("($lambda " + wrong + ")", "bad tree");
                Tongue.fresh("($vau " + right + " #ignore)", "#operative");
                Tongue.freshFails("($vau " + wrong + " #ignore)", "bad tree");
                String value = "($quote (" + "() ".repeat(99) + "))";
                Tongue.fresh("($define! " + right + " " + value + ")", "#inert");
                Tongue.freshFails("($define! " + wrong + " nothing)", "bad tree");
                Tongue.fresh("($set! ($current) " + right + " " + value + ")", "#inert");
                Tongue.freshFails("($set! nothing " + wrong + " nothing)", "bad tree");
            }
        }
        // However it is built: cars as well as cdrs.
        Tongue.fresh("($lambda " + "(".repeat(98) + "z" + ")".repeat(98) + ")", "#applicative");
        Tongue.fresh("($lambda (" + "(#ignore) ".repeat(49) + " z) z)", "#applicative");
        Tongue.freshFails("($lambda (" + "(#ignore) ".repeat(50) + ") z)", "bad tree");
        Tongue.freshFails("($lambda #0=(#ignore . #0#) z)", "bad tree");
        Tongue.freshFails("($lambda #0=(#0#) z)", "bad tree");
        // The same part twice is two.
        Tongue.fresh("($lambda (#0=(" + "#ignore ".repeat(48) + ") . #0#) z)", "#applicative");
        Tongue.freshFails("($lambda (#0=(" + "#ignore ".repeat(50) + ") . #0#) z)", "bad tree");
    }

    private static void partsOfTreesOfLet() {
        String value = "($quote (" + "() ".repeat(99) + "))";
        String right = tree(99, "#ignore", "z");
        String wrong = tree(100, "#ignore", "z");
        Tongue.fresh("($let ((" + right + " " + value + ")) z)", "()");
        Tongue.freshFails("($let ((" + wrong + " " + value + ")) z)", "bad tree");
        // Each of its trees has room for itself.
        Tongue.fresh("($let ((" + right + " " + value + ") (" + right + " " + value + ")) z)", "()");
        Tongue.freshFails("($let ((y nothing) (" + wrong + " " + value + ")) z)", "bad tree");
    }

    private static void symbolsOfTrees() {
        for (String bad : new String[] {"(a a)", "(a . a)", "((a) a)", "(a b a)", "(a (b (c . a)))", "((a b) (c b))", "#0=(a . #0#)", "(#0=(a) #0#)"}) {
            Tongue.freshFails("($lambda " + bad + " 1)", "bad tree");
            Tongue.freshFails("($vau " + bad + " #ignore 1)", "bad tree");
            Tongue.freshFails("($define! " + bad + " nothing)", "bad tree");
            Tongue.freshFails("($set! nothing " + bad + " nothing)", "bad tree");
            Tongue.freshFails("($let ((" + bad + " nothing)) 1)", "bad tree");
        }
        for (String right : new String[] {"()", "#ignore", "a", "(a)", "(a b)", "(a . b)", "(#ignore #ignore)", "(() () ())", "((a) (b) . c)", "(a (b . #ignore) ())"}) {
            Tongue.fresh("($lambda " + right + " 1)", "#applicative");
            Tongue.fresh("($vau " + right + " #ignore 1)", "#operative");
            Tongue.fresh("($vau " + right + " s 1)", "#operative");
        }
        // $vau's symbol is none of the tree; of $let's trees each one stands for itself.
        Tongue.freshFails("($vau a a 1)", "bad tree");
        Tongue.freshFails("($vau (a b . c) c 1)", "bad tree");
        Tongue.freshFails("($vau (a (b)) b 1)", "bad tree");
        Tongue.fresh("($vau (a (b)) ab 1)", "#operative");
        Tongue.fresh("($let ((a 1) (a 2) ((a) ($quote (3)))) a)", "3");
        Tongue.fresh("($let (((a) ($quote (3))) (a 2)) a)", "2");
        for (String bad : new String[] {"1", "\"a\"", "#t", "#inert", "()", "(a)"}) {
            Tongue.freshFails("($vau x " + bad + " 1)", "bad tree");
        }
    }

    private static void badLeaves() {
        for (String leaf : new String[] {"1", "1/2", "\"a\"", "#t", "#f", "#inert"}) {
            for (String bad : new String[] {leaf, "(" + leaf + ")", "(a . " + leaf + ")", "(a (b " + leaf + "))"}) {
                Tongue.freshFails("($lambda " + bad + " 1)", "bad tree");
                Tongue.freshFails("($define! " + bad + " nothing)", "bad tree");
            }
        }
        Tongue t = Tongue.with(E);
        for (String leaf : new String[] {"car", "$if", "e", "root", "($lazy 1)", "(wrap $if)", "(car (make-capsule))"}) {
            t.fails("(eval (list $lambda " + leaf + " 1) e)", "bad tree");
            t.fails("(eval (list $define! (list ($quote a) " + leaf + ") 1) e)", "bad tree");
        }
    }

    /** "ahead of all evaluating, behind the look at how many operands there are, and of $let at its whole list" */
    private static void treesAheadOfAll() {
        Tongue t = new Tongue();
        t.fails("($define! 5 (show 1))", "bad tree");
        Tongue.due("nothing was evaluated", t.x.out(), 0);
        t.fails("($set! (show 1) 5 (show 2))", "bad tree");
        Tongue.due("nothing was evaluated", t.x.out(), 0);
        t.fails("($let ((a (show 1)) (5 2)) (show 3))", "bad tree");
        Tongue.due("nothing was evaluated", t.x.out(), 0);
        t.fails("($define! 5)", "bad operands: $define!");
        t.fails("($define! 5 1 2)", "bad operands: $define!");
        t.fails("($set! e 5)", "bad operands: $set!");
        t.fails("($vau 5)", "bad operands: $vau");
        t.fails("($vau 5 #ignore . 1)", "bad operands: $vau");
        t.fails("($lambda 5 . 1)", "bad operands: $lambda");
        t.fails("($let ((5 1) (a)) 1)", "bad operands: $let");
        t.fails("($let ((5 1) . a) 1)", "bad operands: $let");
        t.fails("($set! 5 x (show 1))", "bad arguments: $set!");
        Tongue.due("nor behind e", t.x.out(), 0);
    }

    /** "a symbol is bound ...; #ignore takes anything; () only (); a pair a pair's car, then its cdr (else mismatch)" */
    private static void matching() {
        String[] trees = {"a", "#ignore", "()", "(a)", "(a . b)", "(a b)", "((a) b)", "(#ignore . a)", "(a ())"};
        String[] values = {"5", "()", "(1)", "(1 2)", "(1 . 2)", "((1) 2)", "(1 ())", "\"s\"", "#ignore", "a"};
        String[] rights = {"yyyyyyyyyy", "yyyyyyyyyy", "nynnnnnnnn", "nnynnnnnnn", "nnyyyyynnn", "nnnynyynnn", "nnnnnynnnn", "nnyyyyynnn", "nnnnnnynnn"};
        for (int i = 0; i < trees.length; i++) {
            for (int j = 0; j < values.length; j++) {
                boolean right = rights[i].charAt(j) == 'y';
                Tongue t = new Tongue();
                String define = "($define! " + trees[i] + " ($quote " + values[j] + "))";
                String let = "($let ((" + trees[i] + " ($quote " + values[j] + "))) 7)";
                String vau = "(($vau " + trees[i] + " #ignore 7) . " + values[j] + ")";
                if (right) {
                    t.is(define, "#inert");
                    t.is(let, "7");
                    t.is(vau, "7");
                } else {
                    t.fails(define, "mismatch");
                    t.fails(let, "mismatch");
                    t.fails(vau, "mismatch");
                }
            }
        }
        Tongue.fresh("($define! (a (b . c) () . d) ($quote (1 (2 3) () 4 5))) (list a b c d)", "(1 2 (3) (4 5))");
        Tongue.fresh("($define! #ignore 5) ($binds? ($current) a)", "#f");
    }

    /** What was bound ahead of a mismatch stays bound, the car's ahead of the cdr's. */
    private static void partOfAMatch() {
        Tongue t = new Tongue();
        t.fails("($define! (a (b c) d) ($quote (1 (2) 3)))", "mismatch");
        t.is("(list a b ($binds? ($current) c) ($binds? ($current) d))", "(1 2 #f #f)");
        Tongue.due("bindings", t.x.bindings(), 2);
        t.fails("($define! (a . (b)) ($quote (5 6 7)))", "mismatch");
        t.is("(list a b)", "(5 6)");
        t.fails("($define! ((a) b) ($quote (8 9)))", "mismatch");
        t.is("(list a b)", "(5 6)");
        t.is("($define! (a) ($quote (8)))", "#inert");
        t.is("a", "8");
    }

    // ---- "SEQUENCE: each evaluated in order, the last one's value (in place of the whole: no frame is left), #inert of none."

    private static void sequences() {
        Tongue t = new Tongue();
        t.is("(list ($sequence) (($lambda ())) (($vau () #ignore)) ($let ()) ($cond (#t)))", "(#inert #inert #inert #inert #inert)");
        t.is("(list ($sequence 1) (($lambda () 1)) (($vau () #ignore 1)) ($let () 1) ($cond (#t 1)))", "(1 1 1 1 1)");
        t.is("(list ($sequence 1 2) (($lambda () 1 2)) (($vau () #ignore 1 2)) ($let () 1 2) ($cond (#t 1 2)))", "(2 2 2 2 2)");
        t.is("($sequence (show 1) (show 2) (show 3) 4)", "4");
        Tongue.due("in order", t.out(), "123");
        t.fails("($sequence (show 1) (error 2) (show 3))", "2");
        Tongue.due("till the error", t.out(), "1");
    }

    /**
     * Whether what stands for X has a frame of its own: k is the continuation of the whole, j that of X; k has j only
     * when they are the same frames.
     */
    private static void framed(String form, String want) {
        String x = "(call/cc ($lambda (j) (guard-dynamic-extent () ($lambda () (throw k #f)) (list (list j ($lambda (v d) #t))))))";
        Tongue.fresh("($define! y #f) (call/cc ($lambda (k) " + form.replace("X", x) + "))", want);
    }

    private static void inPlaceOfTheWhole() {
        for (String form : new String[] {"X", "($sequence X)", "($sequence 1 X)", "($if #t X 1)", "($if #f 1 X)", "($cond (#t X))", "($cond (#f 1) (#t 1 X))",
            "($let () X)", "($let ((a 1)) 2 X)", "(($lambda () X))", "(($lambda (a) 2 X) 1)", "(($vau () #ignore X))", "(eval ($quote X) ($current))",
            "(apply ($lambda () X) ())", "(apply (wrap ($vau () #ignore X)) () ($current))", "(call/cc ($lambda (i) X))", "(call/cc ($vau (i) #ignore X))",
            "($when #t X)", "($unless #f 1 X)", "($let* ((a 1) (b 2)) X)", "($letrec ((f ($lambda () X))) (f))", "($sequence ($if #t ($let () ($sequence X)) 1))"}) {
            framed(form, "#t");
        }
    }

    /** "the last one's value is asked, too (it has a frame, and is not in place of the whole)", and others with a frame. */
    private static void withAFrame() {
        for (String form : new String[] {"($and? X)", "($and? #t X)", "($or? X)", "($or? #f X)", "($and? X #t)", "($sequence X #f)", "($if X #f #f)", "($cond (X #f))",
            "($define! y X)", "($set! ($current) y X)", "($let ((a X)) #f)", "(list X)", "(X)", "((list X))", "($guard X list)", "($guard 1 X)", "(force ($lazy X))",
            "(guard-dynamic-extent () ($lambda () X) ())", "(map ($lambda (a) X) (list 1))", "((car (make-dynamic)) 1 ($lambda () X))", "($binds? X a)",
            "($set! X y 1)"}) {
            framed(form, "#f");
        }
    }

    // ---- "Operands, bodies (also a clause's), trees are taken as they stand when what takes them is combined"

    private static void asTheyStand() {
        Tongue t = Tongue.with(E);
        // A clause's body, changed by its own test, by an earlier test, and by itself.
        t.is("($define! c (list ($quote ($sequence (set-cdr! c (list 9)) #t)) 1 2)) (eval (list $cond c) e)", "2");
        t.is("($define! d (list #t 1 2)) (eval (list $cond (list ($quote ($sequence (set-cdr! d (list 9)) #f))) d) e)", "2");
        t.is("($define! d (list #t ($quote (set-cdr! (cdr d) ())) 2)) (eval (list $cond d) e)", "2");
        // The list of clauses.
        t.is("($define! l (list (list ($quote ($sequence (set-cdr! l ()) #f))) (list #t 5))) (eval (cons $cond l) e)", "5");
        // $let's list, its trees, and its body.
        t.is("($define! b (list 1 2)) (eval (list* $let (list (list ($quote a) ($quote (set-cdr! b (list 9))))) b) e)", "2");
        t.is("($define! r (list ($quote a))) (eval (list $let (list (list r ($quote ($sequence (set-car! r ($quote z)) (list 6))))) ($quote a)) e)", "6");
        // The body of a combiner, for all calls; what is deeper is as it is then.
        t.is("($define! deep (list list 1)) ($define! body (list 5 deep)) ($define! f (eval (list* $lambda () body) e)) (set-cdr! body ()) (f)", "(1)");
        t.is("(set-cdr! deep (list 2 3)) (f)", "(2 3)");
        treesAsTheyStand(t);
        // The operands that $vau's operative gets are those that stand there.
        t.is("($define! ops (list 1 2)) ($define! f ($vau x #ignore x)) (eq? ops (eval (cons f ops) e))", "#t");
        t.is("($define! g ($vau (x . y) #ignore (set-cdr! ops ()) y)) (eval (cons g ops) e)", "(2)");
        // Arguments become a list of their own.
        t.is("($define! ops (list 1 2)) ($define! v (eval (cons list ops) e)) (set-car! ops 9) v", "(1 2)");
    }

    /** All pairs of a tree, in cars and in cdrs, for all calls. */
    private static void treesAsTheyStand(Tongue t) {
        t.run("($define! inner (list ($quote b) ($quote c))) ($define! last (list ($quote f) ($quote g))) ($define! tree (list* (list ($quote a) inner) (list ($quote d)) last))");
        t.run("($define! f (eval (list $lambda tree ($quote (list a b c d f g))) e)) ($define! v (eval (list $vau tree #ignore ($quote (list a b c d f g))) e))");
        t.is("(f (list 1 (list 2 3)) (list 4) 5 6)", "(1 2 3 4 5 6)");
        String[] changes = {"(set-car! inner ($quote x))", "(set-cdr! (cdr inner) ($quote x))", "(set-car! (cadr tree) ($quote y))", "(set-cdr! (car tree) ($quote z))", "(set-car! last ())",
            "(set-cdr! (cdr last) ($quote x))", "(set-cdr! last 7)", "(set-car! tree 5)", "(set-cdr! tree ())"};
        for (String change : changes) {
            t.is(change + " (f (list 1 (list 2 3)) (list 4) 5 6)", "(1 2 3 4 5 6)");
            t.is("(v (1 (2 3)) (4) 5 6)", "(1 2 3 4 5 6)");
        }
    }
}
