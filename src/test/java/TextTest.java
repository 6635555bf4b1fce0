/** TEXT of values: told, write, show, marks and the limit of 1000 bytes (promises 6 to 9). */
public final class TextTest {
    public static void main(String[] args) {
        plainValues();
        marks();
        limits();
        messages();
        Tongue.close();
    }

    private static void plainValues() {
        Tongue t = new Tongue();
        t.is("(list #t #f () #inert #ignore 1 -2/3 \"a\\\"\\\\\\n\" ($quote s))", "(#t #f () #inert #ignore 1 -2/3 \"a\\\"\\\\\\n\" s)");
        t.is("(list ($current) $if car ($vau x e) ($lambda x) root ($lazy 1) (memoize 2))",
            "(#env #operative #applicative #operative #applicative #continuation #promise #promise)");
        t.is("(($lambda ((in is out)) (list (in 1) is (unwrap is))) (make-capsule))", "(#capsule #applicative #operative)");
        t.is("(list (unwrap car) (make-environment) (wrap $if))", "(#operative #env #applicative)");
        t.is("(cons 1 (cons 2 3))", "(1 2 . 3)");
        t.run("(show (list \"a\\n\\\"\" (list \"b\")) \"c\\\\\") (newline) (write \"a\\n\" ($quote (\"b\")))");
        Tongue.due("show and write", t.out(), "(a\n\" (b)) c\\\n\"a\\n\" (\"b\")");
    }

    private static void marks() {
        Tongue t = new Tongue();
        t.is("($define! x (list 1 2)) (set-cdr! (cdr x) x) x", "#0=(1 2 . #0#)");
        t.is("(list x x)", "(#0=(1 2 . #0#) #0=(1 2 . #0#))");
        t.is("(cons 0 x)", "(0 . #0=(1 2 . #0#))");
        t.is("($define! y (list 1)) (set-car! y y) y", "#0=(#0#)");
        t.is("(list y x)", "(#0=(#0#) #1=(1 2 . #1#))");
        t.is("($define! z (list 1 2 3)) (set-car! (cdr z) (cdr z)) z", "(1 . #0=(#0# 3))");
        t.is("(set-car! z z) z", "#0=(#0# . #1=(#1# 3))");
        t.is("($define! s (list 1)) (list s s)", "((1) (1))");
        t.is("($define! a (list 1 2)) ($define! b (list a 3)) (set-car! a b) (list a b)",
            "(#0=((#0# 3) 2) (#0=((#0# 3) 2) 3))");
        // What was written is written anew when it has been changed.
        t.is("($define! u (list 1 2)) (write u) (set-car! u 5) (write u) (set-cdr! u u) (write u) (set-cdr! u ()) u", "(5)");
        Tongue.due("written each time", t.out(), "(1 2)(5 2)#0=(5 . #0#)");
        t.is("($define! many (map ($lambda (n) ($let ((p (list n))) ($sequence (set-cdr! p p) p))) (iota 12 0))) (list-tail many 9)",
            "(#0=(9 . #0#) #1=(10 . #1#) #2=(11 . #2#))");
        t.is("(list-ref (list many) 0)", "(#0=(0 . #0#) #1=(1 . #1#) #2=(2 . #2#) #3=(3 . #3#) #4=(4 . #4#) #5=(5 . #5#)"
            + " #6=(6 . #6#) #7=(7 . #7#) #8=(8 . #8#) #9=(9 . #9#) #10=(10 . #10#) #11=(11 . #11#))");
    }

    private static void limits() {
        Tongue t = new Tongue();
        String s998 = "x".repeat(998);
        t.is("\"" + s998 + "\"", "\"" + s998 + "\"");
        t.is("\"" + s998 + "y\"", "\"" + s998 + "y...");
        t.is("\"" + s998 + "yz\"", "\"" + s998 + "y...");
        t.is("(list \"" + s998 + "\" 1 2)", "(\"" + s998 + "...");
        t.run("(show \"" + s998 + "zz\")");
        Tongue.due("show of 1000 bytes", t.out(), s998 + "zz");
        t.run("(show \"" + s998 + "zzz\" 1)");
        Tongue.due("show of 1001 bytes", t.out(), s998 + "zz... 1");
        t.is("(expt 2 2047)", java.math.BigInteger.TWO.pow(2047).toString());
        t.is("(/ (expt 2 2047) (- (expt 2 2047) 1))", (java.math.BigInteger.TWO.pow(2047) + "/"
            + java.math.BigInteger.TWO.pow(2047).subtract(java.math.BigInteger.ONE)).substring(0, 1000) + "...");
        t.is("($letrec ((f ($lambda (n) ($if (zero? n) 1 (list (f (- n 1))))))) (f 600))",
            "(".repeat(600) + "1" + ")".repeat(399) + "...");
    }

    private static void messages() {
        Tongue t = new Tongue();
        String s = "m".repeat(198);
        t.fails("(error \"" + s + "ab\")", s + "ab");
        t.fails("(error \"" + s + "abc\")", s + "ab");
        t.fails("(error \"" + s + "\" 1 2)", s + " 1");
        t.fails("(error \"a\" \"b c\" ($quote (d \"e\")) #t)", "a b c (d e) #t");
        t.fails("(\"" + s + "\")", "not a combiner: \"" + "m".repeat(183));
        t.fails("n" + s + s, "unbound: n" + "m".repeat(190));
        t.is("(string-length ($guard (error \"" + s + "abc\") ($lambda (m) m)))", "200");
    }
}
