import java.math.BigInteger;
import java.util.Random;

/**
 * Texts made by rules from a row of numbers that is the same each time: a hole in a form is filled with another
 * form. ? is any value, ! an applicative, ~ a continuation; & a number, | a truth, ^ a list (now and then something
 * else); % digits that tell one place from another, @ a name that the definitions have, _ a clause of a guard.
 */
final class Programs {
    /** What the texts count on. */
    static final String DEFINITIONS = "($define! g ($current)) ($define! n 0) ($define! (db dg) (make-dynamic))"
        + " ($define! (sb sg) (make-static)) ($define! (seal sealed? open) (make-capsule))"
        + " ($define! (a b c) (list 1 (list 2 3) \"s\")) ($define! p ($lazy ($sequence (show \"p\") a)))"
        + " ($define! (k0 k1 k2 k x y v d) (list root root root root 5 (list 6) 7 list))"
        + " ($define! rep ($lambda (n f z) ($if (<=? n 0) z (rep (- n 1) f (f z)))))";

    private static final String[] LEAVES = {
        "1", "0", "-7", "3/4", "()", "#t", "#f", "#inert", "#ignore", "\"abc\"", "\"\"", "\"a\\n\\\"\\\\\"", "@", "@",
        "@", "x", "x", "y", "k", "9223372036854775807", "-9223372036854775808", "9223372036854775808",
        "18446744073709551616/3", "(expt 2 2047)", "(expt 2 2048)", "($quote #0=(1 . #0#))", "($quote (1 2 3))",
        "($quote a)", "#0=(list 1 2)", "(list)", "($current)", "(make-environment)", "(make-environment g ($current))",
        "car", "(unwrap car)", "$if", "(unwrap list)", "list", "(error \"oops\" %)", "(/ 1 0)", "(newline)",
        "($guard (dg) list)", "($guard (sg) list)", "p", "(force p)", "(show %)", "%", "%", "root", "~", "!",
        "(list 1 2 3)", "(cons 1 2)", "(expt 3/7 5)", "(string->symbol \"q\")", "(string->number \"-6/4\")",
        "(iota 3 1)"
    };

    private static final String[] FORMS = {
        "(list ? ?)", "(list % ?)", "(cons ? ?)", "(car ?)", "(cdr ?)", "(length ^)", "(append ^ ?)", "(append ^ ^ ^)",
        "(reverse ^)", "(list-tail ^ 1)", "(set-car! ? ?)", "(set-cdr! ? ?)", "($let ((p ^)) (set-cdr! p ?) p)",
        "($let ((p (list 1 2))) (set-cdr! (cdr p) p) (list ? p))", "&", "&", "&", "|", "|", "^", "^", "($if | ? ?)",
        "($if | ? ?)", "($sequence ? ?)", "($cond (| ?) (#t ?))", "($cond (#f ?) (| ? ?))", "($and? | |)", "($or? | |)",
        "($and? #t ?)", "($or? #f |)", "($let ((x ?)) ?)", "($let ((x ?) ((y . z) ^)) (list x z ?))",
        "($let ((x ?) (x ?)) x)", "($define! @ ?)", "($define! (x . y) ^)", "($define! #ignore ?)", "($set! g @ ?)",
        "($set! ($current) @ ?)", "($binds? g a x)", "($quote ?)", "(eval ? g)",
        "(eval ($quote ?) (make-environment g))", "(eval ($quote ?) ($current))", "(($lambda x ?) ? ?)",
        "(($lambda (x . y) (list y ?)) ? ?)", "(($vau x e (eval (car x) e)) ?)", "(($vau (x) e (list x e)) ?)",
        "(($vau x #ignore x) ? . ?)", "((wrap ($vau x e x)) ? ?)", "((wrap (wrap ($vau x e (list x)))) ? ?)",
        "(wrap !)", "(wrap (unwrap !))", "(unwrap !)", "((unwrap list) ? ?)", "((unwrap car) ^)", "((unwrap +) 1 2 ?)",
        "((unwrap dg))", "(eval (list $if | ? ?) g)", "(eval (cons $sequence ^) g)",
        "(eval (list $let (list (list ($quote x) ?)) ($quote x)) g)", "(eval (list $cond (list | ?) (list #t ?)) g)",
        "(eval (list $vau (list ($quote x) ()) #ignore ?) g)",
        "(eval (list $define! (list ($quote a) ($quote b)) (list list ? ?)) g)", "(eval (cons (unwrap list) ^) g)",
        "($let ((t (list (list ($quote x) ($quote y)) ($quote z)))) ($let ((f (eval (list $lambda t ($quote (list z y x))) g))) (set-car! (cdr t) ?) (set-car! (cdr (car t)) ?) (f (list ? ?) ?)))",
        "($binds? g a ? b)", "($let ((l (list 1 2 3))) (set-car! l ?) (set-cdr! (cdr l) ?) l)",
        "($cond (|) (| ?) (#t))", "($define! (x y x) ^)", "($lambda (x (y x)) ?)", "($vau (x) x ?)",
        "($define! (x . #ignore) ^)", "($let (((x) ^) (y ?)) (list x y))",
        "($let ((l (list list 1 2 ?))) (set-car! (cdr l) (list set-cdr! (list $quote (cdr l)) ())) (eval l g))",
        "($let ((l (list $sequence 1 2 ?))) (set-car! (cdr l) (list set-cdr! (list $quote (cdr l)) ())) (eval l g))",
        "($let ((l (list $and? 1 #t |))) (set-car! (cdr l) (list $sequence (list set-cdr! (list $quote (cdr l)) ()) #t)) (eval l g))",
        "($let ((l (list (list #f 1) (list #t ? ?)))) (set-car! (car l) (list $sequence (list set-cdr! (list $quote l) ()) #f)) (eval (cons $cond l) g))",
        "($let ((e (make-environment)) (f (make-environment))) ($set! e x ?) ($set! f x ?) ($set! f y ?) (eval ($quote y) (make-environment (make-environment) e f)))",
        "(apply ! ^)", "(apply ! ?)", "(apply ! ^ ?)", "(apply ! (list ? ?) ($current))", "(map ! ^)",
        "(map ! (list ? ?) (list 3 4))", "(map ($lambda (x) ?) ^)", "(map ($lambda x (set-cdr! b ?) x) b)", "(! ?)",
        "(! ? ?)", "(!)", "(? ?)", "(eval ? ?)", "($set! ? @ ?)", "($binds? ? a @)", "(wrap ?)", "(unwrap ?)",
        "(call/cc ?)", "(apply ? ?)", "(throw ? ?)", "(call/cc ($lambda (k) ?))",
        "(call/cc ($lambda (k) ($set! g k0 k) ?))", "(call/cc ($lambda (k) ($set! g k1 k) ?))",
        "(list % (call/cc ($lambda (k) ($set! g k2 k) ?)) ?)", "(call/cc !)", "(call/cc ~)", "(throw ~ ?)",
        "(throw ~ ?)", "((continuation->applicative ~) ?)", "((continuation->applicative ~))",
        "((unwrap (continuation->applicative ~)) ?)", "(throw (extend-continuation ~ !) ^)",
        "(throw (extend-continuation ~ ! g) ?)", "($set! g k1 (extend-continuation ~ ($lambda x (show % x) ?)))",
        "(guard-dynamic-extent (list _) ($lambda () ?) (list _))", "(guard-dynamic-extent (list _) ($lambda () ?) ())",
        "(guard-dynamic-extent () ($lambda () ?) (list _))", "(guard-dynamic-extent ? ! ?)",
        "(guard-dynamic-extent (list _ _) ($lambda () (call/cc ($lambda (k) ($set! g k0 k) ?))) (list _ _))",
        "(dynamic-wind ($lambda () (show \"<\")) ($lambda () ?) ($lambda () (show \">\")))",
        "(call-escape ($lambda (q) (+ 1 (q &))))", "(db ? ($lambda () ?))", "(db % ($lambda () (list (dg) ?)))",
        "($let ((e (sb ? g))) ($remote-eval (sg) e))", "((eval ($quote ($lambda () (sg))) (sb ? g)))", "(seal ?)",
        "(sealed? ?)", "(open (seal ?))", "(open (seal &))", "($guard ? ($lambda (m) (list m ?)))", "($guard ? list)",
        "($guard ? ($vau m e ?))", "($guard ? (unwrap string-append))", "($guard ? !)",
        "($guard ? (continuation->applicative ~))", "(error ? \"x\")", "(force ($lazy ?))", "(force ?)", "(open ?)",
        "($lazy ?)", "(memoize ?)", "($define! p ($lazy ?))",
        "($let ((q ($lazy ($sequence ($set! g n (+ n 1)) ($if (<? n 3) (force p) ?))))) ($set! g p q) (list (force q) (force p)))",
        "($define! p ($lazy ($lazy ?)))", "(write ? ?)", "(show ? ?)", "(string-append \"x\" ?)",
        "(string-append c (number->string & 7))", "(number->string & 16)", "(string-length (number->string &))",
        "(symbol->string ($quote @))", "(string->symbol c)", "(string->number (number->string &))",
        "(number->string ?)", "(string-length ?)", "(symbol->string ?)", "(string->symbol ?)", "(string->number ?)",
        "(rep 40 list ?)", "(write (rep 110 ($lambda (z) (list z 1)) ?))", "(list-ref ^ 1)", "(list* ? ^)",
        "($when | ?)", "($unless | ?)", "($let* ((x ?) (y (list x ?))) y)",
        "($letrec ((f ($lambda (z) ($if (<? z 1) ? (f (- z 1)))))) (f 2))", "($bindings->environment (x ?) (y ?))",
        "($provide! (u v) ($define! (u v) (list ? ?)))", "($import! ? a)", "(filter ($lambda (x) |) ^)",
        "(reduce ^ ($lambda (x y) ?) ?)", "(fold ! ? ^)", "(assoc ? (list ^ ^))", "(member? ? ^)", "(for-each ! ^)",
        "(sort <? (list & & &))", "(sort ! ^)", "((compose car list) ?)", "($while (<? n 3) ($set! g n (+ n 1)) ?)",
        "(stream-head ($stream ? ()) 1)", "(make-environment ($current) g)", "(make-environment ? g)",
        "($if (<? n 4) ($sequence ($set! g n (+ n 1)) ?) %)"
    };

    private static final String[] NUMBERS = {
        "1", "2", "-7", "3/4", "0", "n", "a", "9223372036854775807", "-9223372036854775808", "18446744073709551616/3",
        "(expt 2 2047)", "(+ & &)", "(+)", "(- &)", "(- & & 1)", "(* & &)", "(* & & &)", "(/ & 3)", "(/ & &)",
        "(div & 7)", "(div -100 (floor &))", "(mod (floor &) -7)", "(mod (floor &) (floor &))", "(gcd (floor &) 12)",
        "(gcd -12 -18)", "(gcd & &)", "(lcm & -6)", "(lcm -4 6)", "(gcd (floor &) (round &))",
        "(lcm (ceiling &) (truncate &))", "(abs &)", "(floor &)", "(round &)", "(ceiling &)", "(truncate &)",
        "(numerator &)", "(denominator &)", "(expt & 3)", "(expt & 30)", "(expt & 0)", "(min & &)", "(max & & 2)",
        "(length ^)", "(string->number \"%/7\")", "(open (seal &))", "(apply + (list & &))", "(reduce (list & & &) - 0)"
    };

    private static final String[] TRUTHS = {
        "#t", "#f", "(<? & &)", "(<=? 1 &)", "(>? & & &)", "(>=? &)", "(>=? & & &)", "(>=? 3 & 1)", "(<=? & & 4)",
        "(=? & &)", "(zero? &)", "(even? (floor &))", "(odd? (round &))", "(negative? &)", "(positive? &)", "(not? |)",
        "(not? ?)", "(eq? ? ?)", "(equal? ? ?)", "(equal? ^ ^)", "(eq? & &)", "(null? ?)", "(pair? ?)", "(number? ?)",
        "(integer? ?)", "(applicative? ?)", "(operative? ?)", "(promise? ?)", "(environment? ?)", "(continuation? ?)",
        "(symbol? ?)", "(string? ?)", "(boolean? ?)", "(combiner? ?)", "(inert? ?)", "(ignore? ?)", "($and? | |)",
        "($or? | |)", "(sealed? ?)", "(member? & ^)", "($binds? g a x)", "($binds? (make-environment) a)"
    };

    private static final String[] APPLICATIVES = {
        "list", "car", "cons", "+", "write", "length", "append", "force", "throw", "call/cc", "apply", "map", "dg",
        "db", "sg", "seal", "open", "show", "eval", "wrap", "($lambda x x)", "($lambda (x . y) ?)",
        "($lambda x (show %) (car x))", "(wrap ($vau x e ?))", "(wrap list)", "(wrap $quote)",
        "(continuation->applicative ~)", "make-capsule"
    };

    private static final String[] INTERCEPTORS = {
        "($lambda (v d) (show %) v)", "($lambda (v d) (show %) ?)", "($lambda (v d) (d v %))",
        "($lambda (v d) (apply d v))", "($lambda (v d) ((unwrap d) v))", "($lambda (v d) (d))",
        "($lambda (v d) (throw ~ (list % v)))", "($lambda (v d) (error \"way\" v))", "list", "cons", "!",
        "(wrap ($vau (v d) e (eval ($quote (list %)) ($current)) v))"
    };

    private static final String[] LISTS = {
        "(list ? ?)", "(list 1 2)", "($quote (1 2 3))", "b", "()", "(list 3 1 2)", "(iota 4 1)", "(cons ? (list ?))",
        "(list* 1 2 ?)", "?", "(list ($quote a) 5)"
    };

    private static final String[] CONTINUATIONS = {
        "root", "k0", "k0", "k1", "k2", "k", "(extend-continuation ~ !)"
    };

    private static final String[] NAMES = {
        "a", "b", "c", "n", "p", "k0", "k1", "db", "dg", "q"
    };

    private static final String[] TOKENS = {
        "(", ")", "(", ")", " . ", " ", "\n", "\t", "\r", ";x\n", ";", "\"a\"", "\"", "\\", "\"\\n\"", "\"\\q\"",
        " #t ", " #f ", "#inert ", "#ignore ", "#0=", "#1=", "#0# ", "#1# ", "#0=(", "#1=(", "#00#", "#0001=(",
        "#12345=", "#", "#a", " 1 ", " -1 ", "1/2 ", "1/0", "0/0", "-0/3 ", "-", "--1 ", "1/ ", "/2 ", "+1 ", "a ",
        "b ", "..", "1.5 ", "\u0000", "\u007f", "\u00ff", "3".repeat(617), "9".repeat(616) + " ",
        "1/" + "9".repeat(617), "0".repeat(700) + "5 ", "($quote ", "()", "(a . b)", "($quote #0=(1 . #0#))",
        "9223372036854775808 ", "-9223372036854775809 ", "18446744073709551615/2 ", "\"fifteen bytes..\"",
        "\"sixteen bytes...\"", "#9999=(", "#9999#", "(".repeat(99), ")".repeat(99)
    };

    private final Random random;

    Programs(long seed) {
        random = new Random(seed);
    }

    int below(int n) {
        return random.nextInt(n);
    }

    private String one(String[] forms) {
        return forms[below(forms.length)];
    }

    private String filled(String form, int depth) {
        StringBuilder s = new StringBuilder();
        for (int i = 0; i < form.length(); i++) {
            char c = form.charAt(i);
            boolean name = i > 0 && "abcdefghijklmnopqrstuvwxyz-$<=>".indexOf(form.charAt(i - 1)) >= 0;
            s.append(name ? String.valueOf(c) : hole(c, depth));
        }
        return s.toString();
    }

    private String hole(char c, int depth) {
        switch (c) {
            case '?':
                return value(depth - 1);
            case '!':
                return depth > 0 ? filled(one(APPLICATIVES), depth - 1) : "list";
            case '~':
                return depth > 0 ? filled(one(CONTINUATIONS), depth - 1) : "k0";
            case '^':
                return depth > 0 ? filled(one(LISTS), depth - 1) : "b";
            case '_':
                return "(list " + filled("~", depth) + " " + filled(one(INTERCEPTORS), depth - 1) + ")";
            case '&':
                return number(depth);
            case '|':
                return below(20) == 0 ? value(depth - 1) : depth > 0 ? filled(one(TRUTHS), depth - 1) : "#t";
            case '%':
                return String.valueOf(below(100));
            case '@':
                return one(NAMES);
            default:
                return String.valueOf(c);
        }
    }

    private String number(int depth) {
        if (below(8) == 0) {
            BigInteger n = new BigInteger(1 + below(below(4) == 0 ? 2048 : 200), random);
            BigInteger d = new BigInteger(1 + below(200), random);
            return (below(2) == 0 ? "-" : "") + n + (below(4) == 0 ? "/" + d.setBit(0) : "");
        }
        return below(20) == 0 ? value(depth - 1) : depth > 0 ? filled(one(NUMBERS), depth - 1) : "n";
    }

    String value(int depth) {
        return filled(one(depth > 0 && below(8) > 0 ? FORMS : LEAVES), depth);
    }

    /** Some data; now and then with a token too many or too few. */
    String text() {
        StringBuilder s = new StringBuilder();
        for (int i = below(3); i >= 0; i--) {
            s.append(value(1 + below(5))).append(' ');
        }
        if (below(12) == 0) {
            int at = below(s.length());
            s.replace(at, at + below(2), below(2) == 0 ? "" : one(TOKENS));
        }
        return s.substring(0, Math.min(4096, s.length()));
    }

    /** Tokens in a row, some of which can't stand where they are. */
    String tokens() {
        StringBuilder s = new StringBuilder(below(2) == 0 ? "" : "($quote (");
        for (int i = below(12); i >= 0; i--) {
            s.append(one(TOKENS));
        }
        s.append(")".repeat(below(4)));
        int end = below(3) == 0 ? below(s.length() + 1) : s.length();
        return s.substring(0, Math.min(4096, end));
    }

    /** Mostly enough fuel, at times little, or what is no fuel. */
    int fuel() {
        if (below(50) == 0) {
            return below(2) == 0 ? -1 : 30001;
        }
        return below(3) > 0 ? 2000 : below(4) > 0 ? below(150) : 30000;
    }
}
