import java.math.BigInteger;

/** The boundary cases of VALUES: sizes of numbers, how long a list may be, fixed pairs, what a symbol means. */
public final class EdgesOfValuesTest {
    private static final BigInteger LIMIT = BigInteger.TWO.pow(2048);
    private static final String MOST = LIMIT.subtract(BigInteger.ONE).toString();
    /** h is 2 to the power 2047, m is 2 to the power 2048 less 1. */
    private static final String SIZES = "($define! h (expt 2 2047)) ($define! m (+ h (- h 1)))";
    /** l is a list of 1000 pairs, m of 1001 (which is none); e is the environment. */
    private static final String LONG = longOf("1");

    public static void main(String[] args) {
        sizesOfSums();
        sizesOfProducts();
        sizesOfQuotients();
        sizesOfIntegers();
        sizesOfPowers();
        sizesOnTheWay();
        leastTerms();
        listsThatAreRead();
        listsOfApplicatives();
        listsOfOperands();
        listsOfOperatives();
        listsOfArguments();
        listsOfClauses();
        theLastOfAThousand();
        lastClauses();
        whatIsNoList();
        fixedPairs();
        symbolsAreOne();
        meanings();
        manyParents();
        Tongue.close();
    }

    private static String longOf(String item) {
        return "($define! e ($current)) ($define! a (list" + (" " + item).repeat(10) + ")) ($define! b (append a a a a a a a a a a))"
            + " ($define! l (append b b b b b b b b b b)) ($define! m (cons " + item + " l))";
    }

    private static Tongue sized() {
        return Tongue.with(SIZES);
    }

    private static void great(String text) {
        sized().fails(text, "too great");
    }

    /** The text's value is the number. */
    private static void same(String text, BigInteger n) {
        sized().is("(=? " + n + " " + text + ")", "#t");
    }

    private static BigInteger two(int power) {
        return BigInteger.TWO.pow(power);
    }

    // ---- "the size of N, and D, below 2 to the power 2048: what would be greater is the error too great"

    private static void sizesOfSums() {
        same("m", LIMIT.subtract(BigInteger.ONE));
        same("(+ h (- h 1))", LIMIT.subtract(BigInteger.ONE));
        great("(+ h h)");
        great("(+ m 1)");
        same("(+ m 0)", LIMIT.subtract(BigInteger.ONE));
        same("(+ m -1)", LIMIT.subtract(BigInteger.TWO));
        same("(- (- m) 0)", BigInteger.ONE.subtract(LIMIT));
        great("(- (- m) 1)");
        great("(- m -1)");
        same("(- 1 m)", BigInteger.TWO.subtract(LIMIT));
        same("(- 0 m)", BigInteger.ONE.subtract(LIMIT));
        great("(- -1 m)");
        same("(- m)", BigInteger.ONE.subtract(LIMIT));
        same("(- m m)", BigInteger.ZERO);
        // N / D: m + 1/2 has an N that is too great, h / 2 + ... not.
        great("(+ m 1/2)");
        great("(- m 1/2)");
        same("(* 2 (+ 1/2 (- h 1)))", two(2048).subtract(BigInteger.ONE));
        great("(+ h 1/2)");
        same("(* 2 (- h 1/2))", LIMIT.subtract(BigInteger.ONE));
        // D: 1/m + 1/m is 2/m; 1/h + 1/m has D h * m.
        same("(* m (+ (/ 1 m) (/ 1 m)))", BigInteger.TWO);
        great("(+ (/ 1 h) (/ 1 m))");
        same("(* h (+ (/ 1 h) (/ 1 2)))", two(2046).add(BigInteger.ONE));
        great("(+ (/ 1 h) 1/3)");
        same("(+ (/ 1 h) (/ -1 h))", BigInteger.ZERO);
    }

    private static void sizesOfProducts() {
        great("(* h 2)");
        same("(* (expt 2 2046) 2)", two(2047));
        great("(* (expt 2 1024) (expt 2 1024))");
        same("(* (expt 2 1023) (expt 2 1024))", two(2047));
        great("(* m -2)");
        same("(* m -1)", BigInteger.ONE.subtract(LIMIT));
        same("(* m 0)", BigInteger.ZERO);
        same("(* m 1/3)", LIMIT.subtract(BigInteger.ONE).divide(BigInteger.valueOf(3)));
        same("(* m (/ 1 m))", BigInteger.ONE);
        great("(* (/ h 3) 6 1/2)");
        same("(* (/ h 3) 1/2 6)", two(2047));
        great("(* (/ 1 h) 1/2)");
        great("(* (/ 1 m) 1/2)");
        same("(/ 1 (* (/ 1 h) 2))", two(2046));
        // m is 3 * 5 * 17 * ..., so that 2/5 of it is one fifth, twice.
        same("(* m 2/5)", LIMIT.subtract(BigInteger.ONE).divide(BigInteger.valueOf(5)).shiftLeft(1));
        great("(* m 7/5)");
    }

    private static void sizesOfQuotients() {
        great("(/ h 1/2)");
        same("(/ h 1)", two(2047));
        same("(/ (/ h))", two(2047));
        same("(/ (/ m))", LIMIT.subtract(BigInteger.ONE));
        same("(/ (/ -1 m))", BigInteger.ONE.subtract(LIMIT));
        great("(/ (/ h) 2)");
        great("(/ 1 h 2)");
        same("(/ 1 (/ 2 h))", two(2046));
        same("(/ m m)", BigInteger.ONE);
        great("(/ 1/2 m)");
        same("(/ m 1/1)", LIMIT.subtract(BigInteger.ONE));
        sized().is("(=? (/ h m) (/ (- h) (- m)))", "#t");
        sized().fails("(/ m 0)", "divided by zero");
    }

    private static void sizesOfIntegers() {
        BigInteger m = LIMIT.subtract(BigInteger.ONE);
        same("(div m 1)", m);
        same("(div m -1)", m.negate());
        same("(div (- m) 2)", two(2047).negate());
        same("(mod (- m) 2)", BigInteger.ONE);
        same("(mod -1 m)", m.subtract(BigInteger.ONE));
        same("(mod 1 (- m))", BigInteger.ONE.subtract(m));
        same("(abs (- m))", m);
        same("(numerator (/ m 2))", m);
        same("(denominator (/ 2 m))", m);
        same("(floor (/ (- m) 2))", two(2047).negate());
        same("(ceiling (/ m 2))", two(2047));
        same("(truncate (/ m 2))", two(2047).subtract(BigInteger.ONE));
        same("(round (/ m 2))", two(2047));
        same("(round (/ 1 m))", BigInteger.ZERO);
        same("(ceiling (/ 1 m))", BigInteger.ONE);
        same("(floor (/ -1 m))", BigInteger.ONE.negate());
        same("(gcd m h)", BigInteger.ONE);
        same("(gcd m (- m))", m);
        same("(lcm m (- m))", m);
        same("(lcm h 2)", two(2047));
        great("(lcm h 3)");
        great("(lcm m 2)");
        same("(lcm m 3)", m);
        same("(lcm m 0)", BigInteger.ZERO);
    }

    private static void sizesOfPowers() {
        same("(expt 2 2047)", two(2047));
        great("(expt 2 2048)");
        same("(expt -2 2047)", two(2047).negate());
        great("(expt -2 2048)");
        great("(expt 2 10000)");
        same("(/ (expt 1/2 2047))", two(2047));
        great("(expt 1/2 2048)");
        great("(expt 2/3 1293)");
        same("(denominator (expt 2/3 1292))", BigInteger.valueOf(3).pow(1292));
        same("(expt 10 616)", BigInteger.TEN.pow(616));
        great("(expt 10 617)");
        same("(expt m 1)", LIMIT.subtract(BigInteger.ONE));
        same("(expt m 0)", BigInteger.ONE);
        great("(expt m 2)");
        same("(expt 1 10000)", BigInteger.ONE);
        same("(expt -1 9999)", BigInteger.ONE.negate());
        same("(expt 0 10000)", BigInteger.ZERO);
        great("(expt 4 1024)");
        same("(expt 4 1023)", two(2046));
    }

    /** "from the left, as gcd and lcm: what comes on the way may be too great" */
    private static void sizesOnTheWay() {
        great("(+ m 1 -1)");
        same("(+ m -1 1)", LIMIT.subtract(BigInteger.ONE));
        great("(- (- m) 1 -1)");
        same("(- (- m) -1 1)", BigInteger.ONE.subtract(LIMIT));
        great("(* h 2 1/2)");
        same("(* h 1/2 2)", two(2047));
        great("(* h 2 0)");
        same("(* 0 h 2)", BigInteger.ZERO);
        great("(/ h 1/2 2)");
        same("(/ h 2 1/2)", two(2047));
        great("(/ h 1/2 0)");
        sized().fails("(/ h 0 1/2)", "divided by zero");
        great("(lcm m 2 0)");
        same("(lcm m 0 2)", BigInteger.ZERO);
        same("(lcm 0 m 2)", BigInteger.ZERO);
        great("(+ (/ 1 h) (/ 1 m) (/ -1 m))");
        same("(gcd m 0 h)", BigInteger.ONE);
        // A wrong argument comes ahead of all that.
        sized().fails("(+ m 1 #t)", "bad arguments: +");
        sized().fails("(* h 2 ())", "bad arguments: *");
        sized().fails("(/ 1 0 \"a\")", "bad arguments: /");
        sized().fails("(lcm m 2 1/2)", "bad arguments: lcm");
    }

    /** "N / D in least terms, D above 0; INTEGERS have D 1" */
    private static void leastTerms() {
        Tongue t = new Tongue();
        t.is("(list (/ 6 4) (/ 6 -4) (/ -6 -4) (/ 4 2) (/ 0 -5) (+ 1/2 1/2) (* 2/3 3/2) (- 1/2 1/2))", "(3/2 -3/2 3/2 2 0 1 1 0)");
        t.is("(map denominator (list 3/2 -3/2 4/2 0 -7))", "(2 2 1 1 1)");
        t.is("(map numerator (list 3/2 -3/2 4/2 0 -7))", "(3 -3 2 0 -7)");
        t.is("(map integer? (list 3/2 4/2 (+ 1/2 1/2) (/ 9 3) (/ 9 2) 18446744073709551616))", "(#f #t #t #t #f #t)");
    }

    // ---- "A LIST is NIL or a pair whose cdr is a list, at most 1000 pairs."

    private static void listsThatAreRead() {
        for (int n : new int[] {0, 1, 999, 1000}) {
            Tongue.fresh("(length ($quote (" + "1 ".repeat(n) + ")))", "" + n);
            Tongue.fresh("(+ " + "1 ".repeat(n) + ")", "" + n);
            Tongue.fresh("($sequence " + "1 ".repeat(n) + ")", n == 0 ? "#inert" : "1");
        }
        for (int n : new int[] {1001, 1002, 2000}) {
            Tongue.freshFails("(length ($quote (" + "1 ".repeat(n) + ")))", "bad arguments: length");
            Tongue.freshFails("(+ " + "1 ".repeat(n) + ")", "bad operands: (" + "1 ".repeat(92) + "1");
            Tongue.freshFails("($sequence " + "1 ".repeat(n) + ")", "bad operands: $sequence");
            // They are pairs as good as others.
            Tongue.fresh("(cadr ($quote (" + "1 ".repeat(n) + ")))", "1");
            Tongue t = new Tongue();
            t.takes("($quote (" + "1 ".repeat(n) + "))", 2, 2 + n);
        }
    }

    private static void listsOfApplicatives() {
        Tongue t = Tongue.with(LONG);
        t.is("(length l)", "1000");
        t.fails("(length m)", "bad arguments: length");
        t.is("(length (cdr m))", "1000");
        t.is("(length (reverse l))", "1000");
        t.fails("(reverse m)", "bad arguments: reverse");
        t.is("(list-tail l 1000)", "()");
        t.is("(list-tail l 999)", "(1)");
        t.fails("(list-tail l 1001)", "bad arguments: list-tail");
        t.fails("(list-tail m 0)", "bad arguments: list-tail");
        t.fails("(list-tail m 1)", "bad arguments: list-tail");
        t.is("(length (append l ()))", "1000");
        t.fails("(append m ())", "bad arguments: append");
        t.fails("(append () m ())", "bad arguments: append");
        t.is("(eq? m (append m))", "#t");
        t.is("(eq? m (append () m))", "#t");
        Tongue u = Tongue.with(LONG);
        // What append makes may be longer than a list.
        u.is("($define! x (append l a)) (pair? x)", "#t");
        u.fails("(length x)", "bad arguments: length");
        u.is("(length (cddr (cddr (cddr (cddr (cddr x))))))", "1000");
        u.fails("(length (cdr (cddr (cddr (cddr (cddr x))))))", "bad arguments: length");
    }

    /** Operands of an applicative, and of operatives of the ground. */
    private static void listsOfOperands() {
        Tongue t = Tongue.with(LONG);
        t.is("(eval (cons + l) e)", "1000");
        t.fails("(eval (cons + m) e)", "bad operands: (" + "1 ".repeat(92) + "1");
        t.is("(eval (cons $sequence l) e)", "1");
        t.fails("(eval (cons $sequence m) e)", "bad operands: $sequence");
        t.is("(eval (cons ($lambda x 5) l) e)", "5");
        t.fails("(eval (cons ($lambda x 5) m) e)", "bad operands: (" + "1 ".repeat(92) + "1");
        // What $vau makes takes whatever there is.
        t.is("($define! f ($vau x #ignore (eq? x m))) (eval (cons f m) e)", "#t");
        t.fails("(eval (cons $vau (cons #ignore (cons #ignore (cdr l)))) e)", "bad operands: $vau");
        Tongue u = Tongue.with(LONG);
        u.is("(eval (cons $vau (cons #ignore (cons #ignore (cddr l)))) e)", "#operative");
        u.is("(eval (cons $lambda (cons #ignore (cdr l))) e)", "#applicative");
        u.fails("(eval (cons $lambda (cons #ignore l)) e)", "bad operands: $lambda");
        u.is("(eval (cons $let (cons () (cdr l))) e)", "1");
        u.fails("(eval (cons $let (cons () l)) e)", "bad operands: $let");
    }

    private static void listsOfOperatives() {
        Tongue t = Tongue.with(longOf("#t"));
        t.is("(eval (cons $and? l) e)", "#t");
        t.fails("(eval (cons $and? m) e)", "bad operands: $and?");
        Tongue u = Tongue.with(longOf("#f"));
        u.is("(eval (cons $or? l) e)", "#f");
        u.fails("(eval (cons $or? m) e)", "bad operands: $or?");
        Tongue c = Tongue.with(longOf("($quote (#f 1))"));
        c.is("(eval (cons $cond l) e)", "#inert");
        c.fails("(eval (cons $cond m) e)", "bad operands: $cond");
        Tongue n = Tongue.with("($define! s 1)" + longOf("($quote s)"));
        n.is("(eval (cons $binds? (cons e (cdr l))) e)", "#t");
        n.fails("(eval (cons $binds? (cons e l)) e)", "bad operands: $binds?");
        // The list of $let: as many as a list has, not more.
        Tongue b = Tongue.with(longOf("($quote (x 1))"));
        b.is("(eval (list $let l ($quote x)) e)", "1");
        b.fails("(eval (list $let m ($quote x)) e)", "bad operands: $let");
        // A clause of $cond, and one of $let's.
        Tongue d = Tongue.with(LONG);
        d.is("(eval (list $cond (cons #t (cdr l))) e)", "1");
        d.fails("(eval (list $cond (cons #t l)) e)", "bad operands: $cond");
    }

    private static void listsOfArguments() {
        Tongue t = Tongue.with(LONG);
        t.is("(apply + l)", "1000");
        t.fails("(apply + m)", "bad arguments: +");
        t.is("(apply ($lambda x (pair? x)) m)", "#t");
        t.is("(apply (continuation->applicative root) m)", "(" + "1 ".repeat(499) + "1...");
        t.is("(length (map - l))", "1000");
        t.fails("(map - m)", "bad arguments: map");
        t.fails("(map + l m)", "bad arguments: map");
        t.is("(apply =? l)", "#t");
        t.fails("(apply =? m)", "bad arguments: =?");
        t.is("(apply max l)", "1");
        t.fails("(apply max m)", "bad arguments: max");
        Tongue s = Tongue.with(longOf("\"s\""));
        s.is("(string-length (apply string-append l))", "1000");
        s.fails("(apply string-append m)", "bad arguments: string-append");
        s.run("(apply show l)");
        Tongue.due("show of 1000", s.x.out(), 1999);
        s.fails("(apply show m)", "bad arguments: show");
        Tongue.due("show of 1001", s.x.out(), 0);
        s.fails("(apply error l)", "s ".repeat(100));
        s.fails("(apply error m)", "bad arguments: error");
        Tongue v = Tongue.with("($define! v (make-environment))" + longOf("v"));
        v.is("(apply make-environment l)", "#env");
        v.fails("(apply make-environment m)", "bad arguments: make-environment");
        v.fails("(eval (cons make-environment m) e)", "bad operands: (" + "#env ".repeat(37));
    }

    /** "a and b lists of CLAUSES" */
    private static void listsOfClauses() {
        Tongue t = Tongue.with("($define! c (list root list))" + longOf("c"));
        t.is("(guard-dynamic-extent l list l)", "()");
        t.fails("(guard-dynamic-extent m list ())", "bad arguments: guard-dynamic-extent");
        t.fails("(guard-dynamic-extent () list m)", "bad arguments: guard-dynamic-extent");
    }

    /** Behind the definitions of l, its 1000 pairs but for the last one's car, which is x. */
    private static String endsWith(String x) {
        return "(append (cdr l) (list " + x + "))";
    }

    /** The thousandth is looked at like the others. */
    private static void theLastOfAThousand() {
        Tongue t = Tongue.with(LONG);
        t.is("(apply + " + endsWith("5") + ")", "1004");
        t.is("(apply * " + endsWith("5") + ")", "5");
        t.is("(apply - " + endsWith("5") + ")", "-1002");
        t.is("(apply max " + endsWith("5") + ")", "5");
        t.is("(apply min " + endsWith("-5") + ")", "-5");
        t.is("(apply =? " + endsWith("5") + ")", "#f");
        t.is("(apply >=? " + endsWith("1") + ")", "#t");
        Tongue u = Tongue.with(LONG);
        for (String f : new String[] {"+", "-", "gcd", "lcm", "max", "<?"}) {
            u.fails("(apply " + f + " " + endsWith("#t") + ")", "bad arguments: " + f);
        }
        Tongue m = Tongue.with(LONG);
        m.is("(list-ref (map - " + endsWith("5") + ") 999)", "-5");
        m.is("(list-ref " + endsWith("5") + " 999)", "5");
        m.is("(car (reverse " + endsWith("5") + "))", "5");
        m.is("(list-ref (append " + endsWith("5") + " ()) 999)", "5");
        Tongue e = Tongue.with(LONG);
        e.is("(eval (cons + " + endsWith("5") + ") e)", "1004");
        e.is("(eval (cons $sequence " + endsWith("5") + ") e)", "5");
        e.is("(list-ref (eval (cons list " + endsWith("5") + ") e) 999)", "5");
        e.fails("(eval (cons + " + endsWith("($quote nothing)") + ") e)", "unbound: nothing");
        Tongue s = Tongue.with(longOf("\"s\""));
        s.is("(string-length (apply string-append " + endsWith("\"t\"") + "))", "1000");
        s.fails("(apply string-append " + endsWith("\"tt\"") + ")", "bad arguments: string-append");
        s.fails("(apply string-append " + endsWith("5") + ")", "bad arguments: string-append");
        s.run("(apply show " + endsWith("5") + ")");
        Tongue.due("the last one is shown", s.out().substring(1990), "s s s s 5");
        Tongue v = Tongue.with("($define! v (make-environment))" + longOf("v") + "($define! w (make-environment)) ($set! w x 5)");
        v.is("(eval ($quote x) (apply make-environment " + endsWith("w") + "))", "5");
        v.fails("(apply make-environment " + endsWith("5") + ")", "bad arguments: make-environment");
        Tongue a = Tongue.with(longOf("()"));
        a.is("(apply append " + endsWith("5") + ")", "5");
        a.is("(apply append (append (cdr (cdr l)) (list (list 1 2)) (list 5)))", "(1 2 . 5)");
        a.fails("(apply append (append (cdr (cdr l)) (list 7) (list 5)))", "bad arguments: append");
        // map: f and 999 lists.
        Tongue f = Tongue.with(longOf("($quote (1))"));
        f.is("(apply map (cons + (cdr l)))", "(999)");
        f.is("(apply map (cons + (append (cdr (cdr l)) (list ($quote (5))))))", "(1003)");
        f.fails("(apply map (cons + (append (cdr (cdr l)) (list ()))))", "bad arguments: map");
        f.fails("(apply map (cons + l))", "bad arguments: map");
    }

    private static void lastClauses() {
        Tongue c = Tongue.with(longOf("($quote (#f 1))"));
        c.is("(eval (cons $cond " + endsWith("($quote (#t 7))") + ") e)", "7");
        c.fails("(eval (cons $cond " + endsWith("()") + ") e)", "bad operands: $cond");
        Tongue d = Tongue.with(longOf("($quote (#f 1))") + "($define! c (list #t 7))");
        d.is("(eval (cons $cond (append (list ($quote (($sequence (set-cdr! c (list 8)) #f)))) (cdr (cdr l)) (list c))) e)", "7");
        Tongue b = Tongue.with(longOf("($quote (x 1))"));
        b.is("(eval (list $let " + endsWith("($quote (x 7))") + " ($quote x)) e)", "7");
        b.is("(eval (list $let " + endsWith("(list (list ($quote y)) ($quote ($quote (7))))") + " ($quote y)) e)", "7");
        Tongue g = Tongue.with(longOf("($quote (x 1))"));
        g.fails("(eval (list $let " + endsWith("5") + " ($quote x)) e)", "bad operands: $let");
        g.fails("(eval (list $let " + endsWith("($quote (x 1 2))") + " ($quote x)) e)", "bad operands: $let");
        g.fails("(eval (list $let " + endsWith("($quote (5 1))") + " 1) e)", "bad tree");
        Tongue h = Tongue.with(longOf("($quote (x 1))") + "($define! r (list ($quote y)))");
        h.is("(eval (list $let " + endsWith("(list r ($quote ($sequence (set-car! r ($quote z)) (list 6))))") + " ($quote y)) e)", "6");
        Tongue k = Tongue.with("($define! c (list (extend-continuation root list) list))" + longOf("c") + "($define! f ($lambda () (throw root 3)))");
        k.is("(guard-dynamic-extent () f l)", "3");
        k.is("(guard-dynamic-extent () f " + endsWith("(list root ($lambda (v d) (list v 7)))") + ")", "(3 7)");
        k.fails("(guard-dynamic-extent () f " + endsWith("(list root 5)") + ")", "bad arguments: guard-dynamic-extent");
        k.fails("(guard-dynamic-extent " + endsWith("5") + " f ())", "bad arguments: guard-dynamic-extent");
        Tongue n = Tongue.with("($define! s 1)" + longOf("($quote s)"));
        n.is("(eval (cons $binds? (cons e (append (cdr (cdr l)) (list ($quote nothing))))) e)", "#f");
        n.fails("(eval (cons $binds? (cons e (append (cdr (cdr l)) (list 5)))) e)", "bad arguments: $binds?");
        Tongue q = Tongue.with(longOf("#t"));
        q.is("(eval (cons $and? " + endsWith("#f") + ") e)", "#f");
        q.fails("(eval (cons $and? " + endsWith("5") + ") e)", "not a truth: 5");
    }

    private static void whatIsNoList() {
        Tongue t = Tongue.with("($define! e ($current)) ($define! x (list 1 2)) (set-cdr! (cdr x) x)");
        t.fails("(length x)", "bad arguments: length");
        t.fails("(length 5)", "bad arguments: length");
        t.fails("(length (cons 1 2))", "bad arguments: length");
        t.fails("(reverse x)", "bad arguments: reverse");
        t.fails("(append x ())", "bad arguments: append");
        t.is("(car (append () x))", "1");
        t.fails("(list-tail x 0)", "bad arguments: list-tail");
        t.fails("(map list x)", "bad arguments: map");
        t.fails("(apply list x)", "bad arguments: list");
        t.fails("(eval (cons list x) e)", "bad operands: #0=(1 2 . #0#)");
        t.fails("(eval (cons $if x) e)", "bad operands: $if");
        t.fails("(eval (list $let x 1) e)", "bad operands: $let");
        t.fails("(eval (list $let (list x) 1) e)", "bad operands: $let");
        t.fails("(eval (list $cond x) e)", "bad operands: $cond");
        t.fails("(guard-dynamic-extent x list ())", "bad arguments: guard-dynamic-extent");
        t.fails("(guard-dynamic-extent (list x) list ())", "bad arguments: guard-dynamic-extent");
        t.is("(apply ($lambda (a b . c) (list a b (car c))) x)", "(1 2 1)");
    }

    /** "those that were read are FIXED" */
    private static void fixedPairs() {
        Tongue t = Tongue.with("($define! f ($quote (1 (2) . 3))) ($define! l (list 1 2)) ($define! h (cons 0 f))");
        String[] fixed = {"f", "(cdr f)", "(car (cdr f))", "(cdr h)", "(append f)", "(append () f)", "($quote (1))", "(list-tail ($quote (1 2)) 1)",
            "(fold ($vau x #ignore x) 0 (list 1))", "(($vau x #ignore x) 1)", "(($vau (x . y) #ignore y) 1 2)"};
        for (String p : fixed) {
            t.fails("(set-car! " + p + " 5)", "bad arguments: set-car!");
            t.fails("(set-cdr! " + p + " 5)", "bad arguments: set-cdr!");
        }
        t.is("f", "(1 (2) . 3)");
        String[] loose = {"(cdr (list 1 2))", "l", "h", "(cons 1 2)", "(append ($quote (1)) ())", "(reverse ($quote (1)))", "(map - ($quote (1)))", "(list 1)",
            "(($lambda x x) 1)", "(apply list (list 1))", "(make-dynamic)", "(make-static)", "(make-capsule)", "(car (call/cc ($lambda x (list x))))",
            "($guard (error) ($vau x #ignore x))"};
        for (String p : loose) {
            t.is("(set-car! " + p + " 5)", "#inert");
            t.is("(set-cdr! " + p + " ())", "#inert");
        }
        t.is("(list l h f)", "((5) (5) (1 (2) . 3))");
        for (String x : new String[] {"()", "1", "\"a\"", "#inert", "car", "root"}) {
            t.fails("(set-car! " + x + " 5)", "bad arguments: set-car!");
            t.fails("(set-cdr! " + x + " 5)", "bad arguments: set-cdr!");
        }
    }

    /** "symbols (one of a name)" */
    private static void symbolsAreOne() {
        Tongue t = new Tongue();
        t.is("($define! a ($quote abc)) (eq? a ($quote abc))", "#t");
        t.is("(eq? a (string->symbol \"abc\"))", "#t");
        t.is("(eq? a ($quote abd))", "#f");
        t.is("(eq? a ($quote Abc))", "#f");
        t.is("(eq? a ($quote ab))", "#f");
        t.is("(eq? a \"abc\")", "#f");
        t.is("(eq? (symbol->string a) (symbol->string a))", "#f");
    }

    /** "A symbol MEANS its own binding's value, else what it means in the first parent in which it means something." */
    private static void meanings() {
        Tongue t = Tongue.with("($define! a (make-environment)) ($define! b (make-environment)) ($set! a x 1) ($set! b x 2) ($set! b y 3)");
        t.is("(eval ($quote x) (make-environment a b))", "1");
        t.is("(eval ($quote x) (make-environment b a))", "2");
        t.is("(eval ($quote y) (make-environment a b))", "3");
        t.is("($define! c (make-environment a b)) ($set! c x 4) (eval ($quote x) c)", "4");
        t.is("(list (eval ($quote x) a) (eval ($quote x) b))", "(1 2)");
        // All of the first parent, its parents too, is ahead of the second one.
        t.is("(eval ($quote x) (make-environment (make-environment (make-environment a)) b))", "1");
        t.is("(eval ($quote y) (make-environment (make-environment a) b))", "3");
        t.is("(eval ($quote x) (make-environment (make-environment) (make-environment) b a))", "2");
        t.fails("(eval ($quote z) c)", "unbound: z");
        t.fails("(eval ($quote car) c)", "unbound: car");
        t.is("(pair? (eval ($quote (list 1)) (make-environment c ($current))))", "#t");
        // What a parent gets later means something then.
        t.is("($define! d (make-environment (make-environment) a)) ($set! a z 7) (eval ($quote z) d)", "7");
        t.is("($set! a z 8) (eval ($quote z) d)", "8");
        // The same one twice, and one within another.
        t.is("(eval ($quote y) (make-environment a a (make-environment a b) b))", "3");
    }

    private static void manyParents() {
        Tongue t = Tongue.with("($define! v (make-environment))" + longOf("v") + "($define! w (make-environment)) ($set! w x 5)");
        t.is("(eval ($quote x) (apply make-environment (append (cdr l) (list w))))", "5");
        t.fails("(eval ($quote y) (apply make-environment (append (cdr l) (list w))))", "unbound: y");
        Tongue s = Tongue.with("($define! v (make-environment))" + longOf("v") + "($define! w (make-environment)) ($set! w x 5)");
        s.is("(eval ($quote x) (apply make-environment (list* v w (cddr l))))", "5");
        s.fails("(eval ($quote x) (make-environment v v v))", "unbound: x");
        s.fails("(eval ($quote x) v)", "unbound: x");
        s.is("(eval ($quote x) (make-environment v v w))", "5");
        s.fails("(eval ($quote x) v)", "unbound: x");
        // Whichever of many it is; those that wait behind a parent with many parents, too.
        Tongue p = Tongue.with("($define! v (make-environment)) ($define! w (make-environment)) ($set! w x 5) ($set! v y 1)" + longOf("(make-environment)"));
        for (int at : new int[] {0, 1, 2, 62, 63, 64, 65, 66, 99}) {
            p.is("(eval ($quote x) (apply make-environment (append (list-tail b " + (100 - at) + ") (list w) b)))", "5");
        }
        String[] texts = {"(eval ($quote x) (make-environment many v w))", "(eval ($quote y) (make-environment many v w))",
            "(eval ($quote x) (make-environment (make-environment many many) many (make-environment v many w)))",
            "(eval ($quote x) (make-environment (make-environment many v) w))", "(eval ($quote y) (make-environment (make-environment many w) many v))"};
        String[] values = {"5", "1", "5", "5", "1"};
        for (int i = 0; i < texts.length; i++) {
            Tongue q = Tongue.with("($define! v (make-environment)) ($define! w (make-environment)) ($set! w x 5) ($set! v y 1)" + longOf("(make-environment)")
                + "($define! many (apply make-environment b))");
            q.is(texts[i], values[i]);
        }
        // A long row of children.
        Tongue u = Tongue.with("($define! down ($lambda (n e) ($if (zero? n) e (down (- n 1) (make-environment e))))) ($define! top (make-environment))"
            + " ($set! top x 6) ($define! low (down 900 top))");
        u.is("(eval ($quote x) low)", "6");
        u.fails("(eval ($quote y) low)", "unbound: y");
        u.is("($set! low x 7) (list (eval ($quote x) low) (eval ($quote x) top))", "(7 6)");
    }
}
