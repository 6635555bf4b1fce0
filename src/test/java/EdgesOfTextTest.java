import java.math.BigInteger;

/** The boundary cases of TEXT: marked pairs, what is more than 1000 bytes, messages of 200, OUTPUT's room of 4096. */
public final class EdgesOfTextTest {
    public static void main(String[] args) {
        namesOfThings();
        strings();
        lists();
        markedPairs();
        pairsMetAgain();
        orderOfMarks();
        manyMarks();
        changedPairs();
        marksInOutputAndMessages();
        aThousandBytes();
        aThousandBytesOfLists();
        aThousandBytesOfNumbers();
        aThousandBytesEach();
        deepAndLong();
        messagesOfTwoHundred();
        messagesWithTexts();
        errorsOfTwoHundred();
        roomOfOutput();
        outputOfEachRun();
        Tongue.close();
    }

    // ---- "as it would be read ...; #env #operative #applicative #continuation #capsule #promise; fractions as N/D"

    private static void namesOfThings() {
        String[] values = {"($current)", "(make-environment)", "$if", "(unwrap car)", "($vau x e)", "(unwrap ($lambda x))", "(unwrap (car (make-capsule)))", "car", "($lambda x)",
            "(wrap $if)", "(car (make-dynamic))", "caar", "(continuation->applicative root)", "root", "(extend-continuation root car)", "((car (make-capsule)) 1)", "($lazy 1)",
            "(memoize 1)", "#t", "#f", "#inert", "#ignore", "()", "0", "-5", "1/2", "-1/2", "($quote a)"};
        String[] texts = {"#env", "#env", "#operative", "#operative", "#operative", "#operative", "#operative", "#applicative", "#applicative", "#applicative", "#applicative", "#applicative",
            "#applicative", "#continuation", "#continuation", "#capsule", "#promise", "#promise", "#t", "#f", "#inert", "#ignore", "()", "0", "-5", "1/2", "-1/2", "a"};
        for (int i = 0; i < values.length; i++) {
            Tongue t = new Tongue();
            t.is(values[i], texts[i]);
            t.is("(list " + values[i] + " " + values[i] + ")", "(" + texts[i] + " " + texts[i] + ")");
            t.run("(write " + values[i] + ") (show " + values[i] + ")");
            Tongue.due("written and shown", t.out(), texts[i] + texts[i]);
        }
    }

    /** "strings with backslashes; 10 as \n" */
    private static void strings() {
        for (int c = 0; c < 256; c++) {
            Tongue t = new Tongue();
            String inText = c == 10 ? "\\n" : c == '"' || c == '\\' ? "\\" + (char) c : "" + (char) c;
            t.is("\"" + inText + "\"", "\"" + inText + "\"");
            t.run("(write \"" + inText + "\") (show \"" + inText + "\")");
            Tongue.due("written and shown " + c, t.out(), "\"" + inText + "\"" + (char) c);
        }
        Tongue t = new Tongue();
        t.is("\"\"", "\"\"");
        t.is("\"\n\"", "\"\\n\"");
        t.is("(list \"\" \" \")", "(\"\" \" \")");
    }

    /** "Lists as (a b . c)." */
    private static void lists() {
        String[] texts = {"()", "(())", "(() . a)", "(a)", "(a b)", "(a . b)", "(a b . c)", "((a) . b)", "((a . b) (c . d) . e)", "(a (b (c)) . d)", "(() ())", "(a . \"b\")", "(1 . 1/2)"};
        for (String text : texts) {
            Tongue.fresh("($quote " + text + ")", text);
        }
        Tongue.fresh("($quote (a . (b . (c . ()))))", "(a b c)");
        Tongue.fresh("($quote (a . (b . c)))", "(a b . c)");
        Tongue.fresh("(list)", "()");
        Tongue.fresh("(cons () ())", "(())");
    }

    // ---- "a pair that is met again while what hangs on it isn't done yet is MARKED"

    private static void markedPairs() {
        String[] texts = {"#0=(#0#)", "#0=(a . #0#)", "#0=(#0# . #0#)", "#0=(a b . #0#)", "#0=(a #0#)", "#0=(a (b #0#) . c)", "(a . #0=(b . #0#))", "(a #0=(b . #0#) c)", "#0=((#0#))",
            "#0=(a #1=(b #0# #1#))", "(#0=(#0#) #1=(#1#))", "#0=(#1=(#0# #1#))", "#0=(a . #1=(b #0# . #1#))", "#0=((a . #0#) . #0#)"};
        for (String text : texts) {
            Tongue.fresh("($quote " + text + ")", text);
        }
        // Numbers are given anew, in the order in which they are first written.
        Tongue.fresh("($quote #7=(a #3=(b #7# #3#)))", "#0=(a #1=(b #0# #1#))");
        Tongue.fresh("($quote (#9=(a . #9#) #5=(b . #5#)))", "(#0=(a . #0#) #1=(b . #1#))");
        // Labels of what is not within itself are none.
        Tongue.fresh("($quote #1=(a #2=(b) . #3=(c)))", "(a (b) c)");
    }

    /** "each pair once": what is met again when it is done is not marked, but written again. */
    private static void pairsMetAgain() {
        Tongue.fresh("($quote (#0=(a) #0#))", "((a) (a))");
        Tongue.fresh("($quote (#0=(a) . #0#))", "((a) a)");
        Tongue.fresh("($quote (#0=(a #1=(b)) #1# #0#))", "((a (b)) (b) (a (b)))");
        // Those that are marked: where they don't stand within themselves they have their mark ahead again.
        Tongue.fresh("($quote (#0=(a . #0#) #0#))", "(#0=(a . #0#) #0=(a . #0#))");
        Tongue.fresh("($quote (#0=(a #1=(b . #1#) . #0#) #1# #0#))", "(#0=(a #1=(b . #1#) . #0#) #1=(b . #1#) #0=(a #1=(b . #1#) . #0#))");
        Tongue.fresh("($quote (#0=(a . #0#) . #0#))", "(#0=(a . #0#) . #0=(a . #0#))");
        // A marked one within another, where that one is come to by another way.
        Tongue.fresh("($quote #0=(#1=(a . #0#) . #1#))", "#0=((a . #0#) a . #0#)");
        Tongue.fresh("($quote (#1=(x #0=(a . #0#)) #0# #1#))", "((x #0=(a . #0#)) #0=(a . #0#) (x #0=(a . #0#)))");
    }

    private static void orderOfMarks() {
        // Cars ahead of cdrs: which pair of a ring is marked hangs on where it is come in.
        Tongue t = Tongue.with("($define! r (list 1 2 3)) (set-cdr! (cddr r) r)");
        t.is("r", "#0=(1 2 3 . #0#)");
        t.is("(cdr r)", "#0=(2 3 1 . #0#)");
        t.is("(list r (cdr r))", "(#0=(1 2 3 . #0#) (2 3 . #0=(1 2 3 . #0#)))");
        t.is("(list (cdr r) r)", "(#0=(2 3 1 . #0#) (1 . #0=(2 3 1 . #0#)))");
        t.is("(cons 0 (cddr r))", "(0 . #0=(3 1 2 . #0#))");
        t.is("(cons (cdr r) (cdr r))", "(#0=(2 3 1 . #0#) . #0=(2 3 1 . #0#))");
        Tongue u = Tongue.with("($define! a (list 1)) ($define! b (list 2)) (set-cdr! a b) (set-cdr! b a)");
        u.is("(list a b)", "(#0=(1 2 . #0#) (2 . #0=(1 2 . #0#)))");
        u.is("(set-car! a b) a", "#0=((2 . #0#) 2 . #0#)");
        u.is("b", "#0=(2 #0# . #0#)");
    }

    private static void manyMarks() {
        // Marks of one, two and three figures.
        StringBuilder text = new StringBuilder();
        StringBuilder want = new StringBuilder();
        for (int i = 0; i < 101; i++) {
            text.append("#").append(i).append("=(#").append(i).append("#)");
            want.append(i == 0 ? "" : " ").append("#").append(i).append("=(#").append(i).append("#)");
        }
        Tongue t = new Tongue();
        t.run("($quote (" + text + "))");
        String all = "(" + want + ")";
        Tongue.due("told of 101 marks", t.told(), all.substring(0, Math.min(1000, all.length())) + (all.length() > 1000 ? "..." : ""));
        Tongue.due("so many bytes", all.length() > 1000 ? 1 : 0, 1);
        t.is("($quote (" + text.substring(0, 80) + "))", "(" + want.substring(0, 89) + ")");
    }

    /** What is written again is gone along again, as it is then. */
    private static void changedPairs() {
        Tongue t = new Tongue();
        t.run("($define! x (list 1 2)) (write x) (set-cdr! (cdr x) x) (write x) (set-cdr! (cdr x) ()) (write x) (set-car! x x) (write x) (set-car! x (cdr x)) (write x)");
        Tongue.due("each time", t.out(), "(1 2)#0=(1 2 . #0#)(1 2)#0=(#0# 2)((2) 2)");
        t.run("(write x) ($define! y (list x)) (write y x) (set-car! (cdr x) y) (write x) (write y)");
        Tongue.due("and in other runs", t.out(), "((2) 2)(((2) 2)) ((2) 2)#0=(((#0#)) (#0#))#0=(((#0#) #0#))");
    }

    private static void marksInOutputAndMessages() {
        Tongue t = Tongue.with("($define! x (list 1 \"s\")) (set-cdr! (cdr x) x)");
        t.run("(write x x) (show x) (write 1 x)");
        Tongue.due("each one has its own marks", t.out(), "#0=(1 \"s\" . #0#) #0=(1 \"s\" . #0#)#0=(1 s . #0#)1 #0=(1 \"s\" . #0#)");
        t.fails("(error x 5)", "#0=(1 s . #0#) 5");
        t.fails("(x)", "not a combiner: #0=(1 \"s\" . #0#)");
        t.fails("(eval (cons list x) ($current))", "bad operands: #0=(1 \"s\" . #0#)");
        t.fails("($if x 1 2)", "not a truth: #0=(1 \"s\" . #0#)");
    }

    // ---- "A text of more than 1000 bytes is its first 1000 and then ... ."

    private static void aThousandBytes() {
        for (int n : new int[] {996, 997, 998, 999, 1000, 1001, 1003, 2000, 4000}) {
            String s = "s".repeat(n);
            String quoted = "\"" + s + "\"";
            Tongue t = new Tongue();
            t.is(quoted, cut(quoted));
            t.is("($quote " + s + ")", cut(s));
            t.is("(list ($quote " + s + "))", cut("(" + s + ")"));
            t.is("(cons 1 ($quote " + s + "))", cut("(1 . " + s + ")"));
            t = new Tongue();
            t.run("(show " + quoted + ")");
            Tongue.due("shown " + n, t.out(), cut(s));
            t.run("(write " + quoted + ")");
            Tongue.due("written " + n, t.out(), cut(quoted));
            t.run("(show ($quote (" + s + ")))");
            Tongue.due("shown in a list " + n, t.out(), cut("(" + s + ")"));
        }
        // A backslash and what it stands ahead of may be parted.
        for (int n = 996; n < 1001; n++) {
            String s = "s".repeat(n);
            Tongue.fresh("\"" + s + "\\n\\n\"", cut("\"" + s + "\\n\\n\""));
            Tongue.fresh("\"" + s + "\\\"\"", cut("\"" + s + "\\\"\""));
        }
    }

    private static String cut(String text) {
        return text.length() > 1000 ? text.substring(0, 1000) + "..." : text;
    }

    private static void aThousandBytesOfLists() {
        for (int n = 498; n < 503; n++) {
            Tongue.fresh("($quote (" + "1 ".repeat(n) + "))", cut("(" + "1 ".repeat(n - 1) + "1)"));
            Tongue.fresh("($quote (" + "1 ".repeat(n) + " . 2))", cut("(" + "1 ".repeat(n) + ". 2)"));
            Tongue.fresh("($quote (a" + "() ".repeat(n) + "))", cut("(a" + " ()".repeat(n) + ")"));
            Tongue.fresh("($quote #0=(" + "1 ".repeat(n) + " . #0#))", cut("#0=(" + "1 ".repeat(n) + ". #0#)"));
        }
    }

    private static void aThousandBytesOfNumbers() {
        BigInteger m = BigInteger.TWO.pow(2047).subtract(BigInteger.ONE);
        String d = "($define! m (- (expt 2 2047) 1)) ($define! h (expt 2 2047))";
        Tongue t = Tongue.with(d);
        t.is("m", m.toString());
        t.is("(/ m h)", cut(m + "/" + m.add(BigInteger.ONE)));
        t.is("(/ (- m) h)", cut("-" + m + "/" + m.add(BigInteger.ONE)));
        for (int digits = 381; digits < 386; digits++) {
            BigInteger x = BigInteger.TEN.pow(digits - 1).add(BigInteger.valueOf(digits % 2 == 0 ? 1 : 7));
            BigInteger g = m.gcd(x);
            Tongue.fresh("(/ " + m + " " + x + ")", cut(m.divide(g) + "/" + x.divide(g)));
        }
        t.is("(list m m)", cut("(" + m + " " + m + ")"));
    }

    /** write and show: each one's text has its own thousand. */
    private static void aThousandBytesEach() {
        Tongue t = Tongue.with("($define! s \"" + "s".repeat(1001) + "\")");
        t.run("(show s s 1)");
        Tongue.due("shown", t.out(), "s".repeat(1000) + "... " + "s".repeat(1000) + "... 1");
        t.run("(write s ($quote a))");
        Tongue.due("written", t.out(), "\"" + "s".repeat(999) + "... a");
        t.run("(show (list 1 (list s 2)) 3 (list 4 5)) (write 6)");
        Tongue.due("what was cut is not gone on with", t.out(), "(1 (" + "s".repeat(996) + "... 3 (4 5)6");
        t.run("(write (list 1 (list s 2))) (write (list 7)) ($guard (error (list s 1) 2) ($lambda (m) (show 8))) (show (list 9))");
        Tongue.due("nor behind a message", t.out(), "(1 (\"" + "s".repeat(995) + "...(7)8(9)");
        t.run("(show (list s s))");
        Tongue.due("shown in a list", t.out(), "(" + "s".repeat(999) + "...");
    }

    private static void deepAndLong() {
        String nest = "($define! nest ($lambda (n x) ($if (zero? n) x (nest (- n 1) (list x)))))";
        for (int n : new int[] {498, 499, 500, 501, 999, 1000, 1001, 1002}) {
            Tongue t = Tongue.with(nest);
            t.is("(nest " + n + " 7)", cut("(".repeat(n) + "7" + ")".repeat(n)));
        }
        Tongue u = Tongue.with("($define! a (list 1 1 1 1 1 1 1 1 1 1)) ($define! b (append a a a a a a a a a a)) ($define! l (append b b b b b b b b b b))");
        u.is("(append l l l 5)", "(" + "1 ".repeat(499) + "1...");
        u.is("(list 2 l)", "(2 (" + "1 ".repeat(498) + "...");
    }

    // ---- "a message has its first 200 bytes"

    private static void messagesOfTwoHundred() {
        for (int n : new int[] {189, 190, 191, 192, 200, 1000, 4000}) {
            String name = "n".repeat(n);
            Tongue t = new Tongue();
            String want = "unbound: " + name;
            t.fails(name, want.substring(0, Math.min(200, want.length())));
            t.is("(string-length ($guard " + name + " ($lambda (m) m)))", "" + Math.min(200, want.length()));
            t.fails("($guard " + name + " ($lambda (m) (error m \"z\")))", want.length() < 199 ? want + " z" : want.length() == 199 ? want + " " : want.substring(0, 200));
        }
    }

    private static void messagesWithTexts() {
        String s = "\"" + "s".repeat(1200) + "\"";
        String head = "\"" + "s".repeat(300);
        Tongue t = new Tongue();
        t.fails("(" + s + ")", ("not a combiner: " + head).substring(0, 200));
        t.fails("($if " + s + " 1 2)", ("not a truth: " + head).substring(0, 200));
        t.fails("(car . " + s + ")", ("bad operands: " + head).substring(0, 200));
        t.fails("(car " + s + " . 1)", ("bad operands: (" + head).substring(0, 200));
        // Texts of a value, strings with quotes.
        t.fails("(\"a\\n\")", "not a combiner: \"a\\n\"");
        t.fails("($if \"a\" 1 2)", "not a truth: \"a\"");
        t.fails("(car . \"a\")", "bad operands: \"a\"");
    }

    private static void errorsOfTwoHundred() {
        for (int n : new int[] {197, 198, 199, 200, 201, 1000, 1001, 3000}) {
            String s = "e".repeat(n);
            Tongue t = new Tongue();
            t.fails("(error \"" + s + "\")", s.substring(0, Math.min(200, n)));
            t.fails("(error \"" + s + "\" 7 8)", (s + " 7 8").substring(0, Math.min(200, n + 4)));
            t.is("(string-length ($guard (error \"" + s + "\") ($lambda (m) m)))", "" + Math.min(200, n));
        }
        Tongue.freshFails("(error" + " 1".repeat(500) + ")", "1 ".repeat(100));
        // One that was taken leaves nothing behind.
        Tongue t = new Tongue();
        t.run("($guard (error \"" + "e".repeat(300) + "\") ($lambda (m) 1)) (show 2 3) ($guard (error) ($lambda (m) (write m)))");
        Tongue.due("out behind an error", t.out(), "2 3\"\"");
    }

    // ---- "OUTPUT of a run has room for 4096 bytes; what doesn't fit is left out (byte by byte)."

    private static void roomOfOutput() {
        for (int n = 90; n < 100; n++) {
            Tongue t = Tongue.with("($define! s \"" + "s".repeat(1000) + "\")");
            t.run("(show s) (show s) (show s) (show s) (show \"" + "t".repeat(n) + "\") (show \"u\" 1) 5");
            Tongue.due("state", t.x.state(), 0);
            Tongue.due("told", t.told(), "5");
            String all = "s".repeat(4000) + "t".repeat(n) + "u 1";
            Tongue.due("out with " + n, t.out(), all.substring(0, Math.min(4096, all.length())));
        }
        Tongue t = Tongue.with("($define! s \"" + "s".repeat(1000) + "\")");
        t.is("(show s s s s s s) (newline) (write 1)", "#inert");
        Tongue.due("out", t.x.out(), 4096);
        Tongue.due("its last bytes", t.out().substring(4000), "sss " + "s".repeat(92));
        t.run("(show s s s s \"" + "r".repeat(91) + "\") (newline) (newline) (show 1)");
        Tongue.due("a byte 10 as the last one", t.out().substring(4093), "rr\n");
    }

    private static void outputOfEachRun() {
        Tongue t = new Tongue();
        t.run("(show 1)");
        Tongue.due("of the first", t.out(), "1");
        t.run("2");
        Tongue.due("of the second", t.out(), "");
        t.run("(show 3) (car 4) (show 5)");
        Tongue.due("till an error", t.out(), "3");
        t.run("(show 6) (list 7 8 9)", 6);
        Tongue.due("till the end of fuel", t.out(), "6");
        t.run("(show 6) )");
        Tongue.due("of a fault", t.out(), "");
        Tongue u = Tongue.left(9, "");
        u.run("(show 6) (list 7 8 9)");
        Tongue.due("till the end of MADE", u.out(), "6");
        Tongue.due("state", u.x.state(), 3);
    }
}
