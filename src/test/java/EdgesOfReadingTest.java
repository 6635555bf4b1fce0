import java.math.BigInteger;

/** The boundary cases of READING: bytes, words, digits, labels, parentheses, and the place of each fault. */
public final class EdgesOfReadingTest {
    private static final BigInteger LIMIT = BigInteger.TWO.pow(2048);
    private static final String MOST = LIMIT.subtract(BigInteger.ONE).toString();
    private static final String OVER = LIMIT.toString();

    public static void main(String[] args) {
        eachByteAlone();
        eachByteInAWord();
        eachByteInAString();
        eachByteBehindABackslash();
        remarks();
        tokensSideBySide();
        stringsWithoutAnEnd();
        wordsOfSigns();
        numberWords();
        rowsOfDigits();
        labelWords();
        labelsOnce();
        references();
        dots();
        behindLabels();
        behindDots();
        depthOfParentheses();
        firstFault();
        textsWithoutAnEnd();
        lengthOfSymbols();
        Tongue.close();
    }

    private static boolean isBlank(int c) {
        return c == 9 || c == 10 || c == 13 || c == 32;
    }

    private static boolean inWord(int c) {
        return c >= 33 && c <= 126 && "()\";".indexOf(c) < 0;
    }

    /** "bytes 9, 10, 13, 32 and remarks ...; other bytes that begin no token are a fault at them" */
    private static void eachByteAlone() {
        for (int c = 0; c < 256; c++) {
            Tongue t = new Tongue();
            String text = "" + (char) c;
            if (isBlank(c) || c == ';') {
                Tongue.due("byte " + c, t.run(text), 0);
            } else if (c == '(') {
                t.faults(text, 1);
            } else if (!inWord(c) || c == '.' || c == '#') {
                t.faults(text, 0);
            } else {
                int bound = "+-*/".indexOf(c) >= 0 || c >= '0' && c <= '9' ? 1 : 0;
                Tongue.due("byte " + c, t.run(text), bound);
                Tongue.due("state of byte " + c, t.x.state(), 1 - bound);
            }
            Tongue.due("byte " + c + " between data", new Tongue().run("5" + text + "6"), between(c));
        }
    }

    /** The answer to a run of 5, the byte, and 6. */
    private static int between(int c) {
        if (isBlank(c)) {
            return 2;
        }
        if (c == '(') {
            return -2 - 3;
        }
        if (c == '"' || c == ')' || c < 33 || c > 126) {
            return -2 - 1;
        }
        // One number, or 5 and a remark; else a symbol, which means nothing.
        return c == ';' || c == '/' || c >= '0' && c <= '9' ? 1 : 0;
    }

    /** "WORDS, rows of bytes 33 .. 126 but ( ) \" ;" */
    private static void eachByteInAWord() {
        for (int c = 33; c < 127; c++) {
            if (inWord(c)) {
                String word = "a" + (char) c + "b";
                Tongue.fresh("($quote " + word + ")", word);
                Tongue.fresh("($quote (x" + (char) c + "))", "(x" + (char) c + ")");
            }
        }
        for (int c : new int[] {0, 1, 8, 11, 12, 14, 31, 127, 128, 160, 255}) {
            Tongue.freshFaults("(a" + (char) c + "b)", 2);
            Tongue.freshFaults("((a) " + (char) c, 5);
            Tongue.freshFaults((char) c + "; \n (", 0);
        }
    }

    /** "others being themselves" */
    private static void eachByteInAString() {
        for (int c = 0; c < 256; c++) {
            if (c != '"' && c != '\\') {
                Tongue t = new Tongue();
                t.run("(show \"" + (char) c + "\")");
                Tongue.due("bytes of " + c, t.x.out(), 1);
                Tongue.due("byte " + c, t.x.outAt(0), c);
                t.is("(string-length \"x" + (char) c + "y\")", "3");
            }
        }
    }

    /** "a backslash ahead of \" \\ or n means that byte or 10 (of other bytes: a fault at the backslash ...)" */
    private static void eachByteBehindABackslash() {
        for (int c = 0; c < 256; c++) {
            Tongue t = new Tongue();
            String text = "\"a\\" + (char) c;
            if (c == '"' || c == '\\' || c == 'n') {
                t.run("(show " + text + "b\")");
                Tongue.due("bytes behind a backslash and " + c, t.x.out(), 3);
                Tongue.due("the byte of " + c, t.x.outAt(1), c == 'n' ? 10 : c);
                t.faults(text, 0);
            } else {
                t.faults(text + "\"", 2);
                t.faults(text, 2);
                t.faults("(b " + text + "\")", 5);
            }
        }
        // The byte that was meant is no sign any more.
        Tongue.fresh("(string-length \"\\\\n\")", "2");
        Tongue.fresh("(string-length \"\\\\\\\\\")", "2");
        Tongue.freshFaults("\"\\\\\\a\"", 3);
    }

    /** "remarks (from ; up to 10 ...)" */
    private static void remarks() {
        for (int c = 0; c < 256; c++) {
            Tongue t = new Tongue();
            Tongue.due("remark with " + c, t.run("1;" + (char) c + "2\n3"), c == 10 ? 3 : 2);
        }
        Tongue t = new Tongue();
        Tongue.due("a remark till the end", t.run("1 2;3"), 2);
        Tongue.due("only the sign", t.run("1;"), 1);
        Tongue.due("remarks in a row", t.run(";;\n;\n;5\n6;"), 1);
        Tongue.due("in a list", t.run("(list;)\n1;2\n)"), 1);
        Tongue.due("told", t.told(), "(1)");
        t.is("($quote (a;b\n.;c\nd;e\n))", "(a . d)");
        t.is("($quote #0=;(\n(a))", "(a)");
        t.is("\";\"", "\";\"");
        t.faults("(a;)", 4);
        t.faults("1;\n;\n)", 5);
    }

    /** "nothing need be between two tokens that can't run together" */
    private static void tokensSideBySide() {
        String[] texts = {"\"a\"\"b\"", "1\"a\"", "\"a\"1", "()()", "1()", "()1", "\"\"()", "()\"\"", "(list)(list)", "#t()", "()#t", "#f\"\"#t"};
        int[] data = {2, 2, 2, 2, 2, 2, 2, 2, 2, 2, 2, 3};
        for (int i = 0; i < texts.length; i++) {
            Tongue.due("data of " + texts[i], new Tongue().run(texts[i]), data[i]);
        }
        Tongue.fresh("($quote(a(b)\"c\"d.e(). f))", "(a (b) \"c\" d.e () . f)");
        Tongue.fresh("($quote(a .(b .\"c\")))", "(a b . \"c\")");
        Tongue.fresh("($quote(#0=(a)#0#(b)#1=(c)#1#\"d\"))", "((a) (a) (b) (c) (c) \"d\")");
        Tongue.fresh("($quote((a). b))", "((a) . b)");
        Tongue.fresh("($quote(\"a\". b))", "(\"a\" . b)");
        Tongue.fresh("($quote(\"a\".\"b\"))", "(\"a\" . \"b\")");
        Tongue.fresh("($quote((a).(b)))", "((a) b)");
        Tongue.fresh("($quote((a).b (c)))", "((a) .b (c))");
        Tongue.fresh("($quote(().;\nb))", "(() . b)");
        // Those that can, do.
        Tongue.fresh("($quote (1a a1 1#t a#0# +1 1+1 .1 1. t#f))", "(1a a1 1#t a#0# +1 1+1 .1 1. t#f)");
        Tongue.freshFaults("#t#f", 0);
        Tongue.freshFaults("(#0#1)", 1);
        Tongue.freshFaults("#0=#1=(a)", 0);
        Tongue.freshFaults("#0=a", 0);
        Tongue.freshFaults("(a #inert.)", 3);
    }

    /** "a string that doesn't end, or ends with a backslash as the text's last byte (a bad backslash in it: at that)" */
    private static void stringsWithoutAnEnd() {
        String[] texts = {"\"", "\"a", "\"\\\"", "\"a\\\"b", "\"\\", "\"a\\", "\"\\\\\\", "\"\\n\\", "\"\\n", "\" ", "\"\n", "\"(", "\";"};
        for (String text : texts) {
            Tongue.freshFaults(text, 0);
            Tongue.freshFaults(" " + text, 1);
            Tongue.freshFaults("(a \"b\" " + text, 7);
        }
        Tongue.freshFaults("\"ab\\q", 3);
        Tongue.freshFaults("\"ab\\q\\", 3);
        Tongue.freshFaults("\"\\q\\r", 1);
        Tongue.freshFaults("\"\\n\\\\\\\"\\ \\", 7);
        // A string that ends is one, whatever is behind it.
        Tongue.freshFaults("\"\\\\\" \"", 5);
        Tongue.freshFaults("\"\\\\\"\\\"", 5);
    }

    /** "all else not beginning with #" */
    private static void wordsOfSigns() {
        for (String word : new String[] {"-", "--", "-a", "--1", "-1-", "+", "+1", "1-", "1+", "/", "1/", "/1", "-/1", "-/", "1//2", "1/2/3", "1/-2",
            "-1/-2", "1/2-", "1.", "1.5", "..", "...", ".a", "a.", "a#", "a#t", "1#", "-#", ".#", "$", "$$", "@", "'", "`", ",", "[", "]", "{", "}", "|",
            "\\", "\\n", "~", "^", "_", "!", "?", "<", ">", "=", "&", "%", ":", "*", "0x1", "1e5", "--1/2", "t", "inert"}) {
            Tongue.fresh("(list (symbol? ($quote " + word + ")) ($quote " + word + "))", "(#t " + word + ")");
        }
        for (String word : new String[] {"#", "##", "#a", "#T", "#F", "#tt", "#true", "#f1", "#t=", "#t#", "#Inert", "#INERT", "#inerT", "#inert1", "#iner",
            "#ignor", "#ignored", "#Ignore", "#=", "#-1=", "#+1#", "#1", "#12", "#1/1=", "#1=a", "#1#a", "#1==", "#1##", "#1#=", "#1=#", "#a=", "#a#",
            "#1a=", "#.", "#;", "#(", "#\"", "#\\a", "#env", "#operative"}) {
            Tongue.freshFaults(word, 0);
            Tongue.freshFaults("(a " + word + " )", 3);
        }
        Tongue.fresh("(list #t #f #inert #ignore)", "(#t #f #inert #ignore)");
    }

    private static void numberWords() {
        String[] words = {"0", "-0", "00", "-00", "0/1", "-0/7", "000/001", "1", "01", "-1", "-01", "1/1", "2/1", "4/2", "-4/2", "2/4", "-2/4", "02/04",
            "9223372036854775807", "9223372036854775808", "-9223372036854775808", "-9223372036854775809", "3/9223372036854775808"};
        String[] values = {"0", "0", "0", "0", "0", "0", "0", "1", "1", "-1", "-1", "1", "2", "2", "-2", "1/2", "-1/2", "1/2",
            "9223372036854775807", "9223372036854775808", "-9223372036854775808", "-9223372036854775809", "3/9223372036854775808"};
        for (int i = 0; i < words.length; i++) {
            Tongue.fresh(words[i], values[i]);
        }
        Tongue.fresh("(list (eq? -0 0) (zero? -0) (negative? -0) (integer? 4/2) (eq? 4/2 2) (integer? 1/2))", "(#t #t #f #t #t #f)");
        // "the second not 0"
        for (String word : new String[] {"1/0", "0/0", "-1/0", "1/00", "-0/000", MOST + "/0"}) {
            Tongue.freshFaults(word, 0);
            Tongue.freshFaults("(a " + word + ")", 3);
        }
    }

    /** "each row of digits below 2 to the power 2048" */
    private static void rowsOfDigits() {
        String[] right = {MOST, "-" + MOST, "1/" + MOST, "-1/" + MOST, "000" + MOST, "1/00" + MOST};
        String[] values = {MOST, "-" + MOST, "1/" + MOST, "-1/" + MOST, MOST, "1/" + MOST};
        for (int i = 0; i < right.length; i++) {
            Tongue.fresh(right[i], values[i]);
            Tongue.fresh("($quote (" + right[i] + " b))", "(" + values[i] + " b)");
        }
        Tongue.fresh(MOST + "/" + MOST, "1");
        Tongue.fresh("-" + MOST + "/" + MOST, "-1");
        for (String word : new String[] {OVER, "-" + OVER, "1/" + OVER, "0/" + OVER, OVER + "/1", OVER + "/" + OVER, OVER + "/2", "0" + OVER,
            "1/0" + OVER, OVER + "0", "9".repeat(617), "9".repeat(4000), "1/" + "9".repeat(3000)}) {
            Tongue.freshFaults(word, 0);
            Tongue.freshFaults("(a " + word + ")", 3);
        }
        Tongue.fresh("0".repeat(4000) + "7", "7");
        Tongue.fresh("7/" + "0".repeat(4000) + "7", "1");
        // With another sign it is no row of digits, but a symbol.
        Tongue.freshFails("a" + OVER, ("unbound: a" + OVER).substring(0, 200));
        Tongue.freshFails(OVER + "/", ("unbound: " + OVER).substring(0, 200));
    }

    /** "N a number of one to four digits" */
    private static void labelWords() {
        for (String n : new String[] {"0", "9", "00", "10", "99", "000", "100", "999", "0000", "1000", "9999", "0001"}) {
            Tongue.fresh("($quote #" + n + "=(a #" + n + "#))", "#0=(a #0#)");
            Tongue.freshFaults("#" + n + "#", 0);
        }
        for (String n : new String[] {"", "00000", "10000", "99999", "00001", "123456", "-1", "+1", " 1", "1 ", "a", "1a", "a1", "0x1", "1/1", ":",
            "1:", "/", "1/"}) {
            Tongue.freshFaults("#" + n + "=(a)", 0);
            Tongue.freshFaults("(#1=(a) #" + n + "#)", 8);
        }
        // A number, however it is written.
        Tongue.fresh("($quote #1=(a #01# #001# #0001#))", "#0=(a #0# #0# #0#)");
        Tongue.freshFaults("#1=(a) #01=(b)", 7);
        Tongue.freshFaults("#0000=(a) #0=(b)", 10);
        Tongue.fresh("($quote (#1=(a) #10=(b) #1# #10#))", "((a) (b) (a) (b))");
    }

    /** "a number N may be a label once in the data of one text (the second time: a fault at it)" */
    private static void labelsOnce() {
        Tongue t = new Tongue();
        t.is("($quote #1=(a))", "(a)");
        t.is("($quote #1=(b))", "(b)");
        t.faults("#1=(a) #1=(b)", 7);
        t.faults("#1=(a #1=(b))", 6);
        t.faults("(a (#1=(b)) #2=(c) . #1=(d))", 21);
        t.faults("#1=(a) #1=", 7);
        t.faults("#1=(a) #1=b", 7);
        t.faults("#1=(a) #1#) #1=(c)", 10);
        t.is("($quote (#1=(a) #2=(b)))", "((a) (b))");
        // As many as one text can have.
        StringBuilder text = new StringBuilder("($quote (");
        for (int i = 0; i < 480; i++) {
            text.append('#').append(i).append("=(a)");
        }
        t.is("(length " + text + "#479#)))", "481");
        t.faults(text + "#0=(a)))", text.length());
        t.faults(text + "#480#", text.length());
    }

    /** "a reference is the labelled datum, which must have begun ahead (also within itself, and in data behind)" */
    private static void references() {
        Tongue t = new Tongue();
        t.faults("#1#", 0);
        t.faults("#1# #1=(a)", 0);
        t.faults("(#1# . #1=(a))", 1);
        t.faults("(a #2# #1=(a))", 3);
        t.faults("#1=(a) #2#", 7);
        t.faults("#1=#1#", 0);
        t.faults("#1= #1#", 4);
        t.is("($quote #1=(#1#))", "#0=(#0#)");
        t.is("($quote #1=(a . #1#))", "#0=(a . #0#)");
        t.is("($quote #1=((#1#) b))", "#0=((#0#) b)");
        t.is("#1=($quote (a)) #1#", "(a)");
        t.is("(eq? ($quote #1=(a)) ($quote #1#))", "#t");
        t.is("($quote #1=(a #2=(b #1#) #2#))", "#0=(a (b #0#) (b #0#))");
        t.is("($quote (#1=(a) . #1#))", "((a) a)");
        // What is referred to need not have come to its end, nor be in the same datum.
        t.is("#1=($sequence 1 ($quote #1#))", "#0=($sequence 1 ($quote #0#))");
        t.faults("#1=(a #1#", 9);
        // A label counts nothing, nor does a reference.
        t.takes("($quote #1=(a #1# . #1#))", 2, 2 + 2);
        t.takes("#1=(list) #1#", 4, 1);
    }

    /** "( DATUM ... . DATUM ), at least one ahead of the ." */
    private static void dots() {
        Tongue t = new Tongue();
        t.is("($quote (a . b))", "(a . b)");
        t.is("($quote (a b . c))", "(a b . c)");
        t.is("($quote (a . ()))", "(a)");
        t.is("($quote (() . ()))", "(())");
        t.is("($quote (a . #inert))", "(a . #inert)");
        t.is("($quote (a . \"b\"))", "(a . \"b\")");
        t.is("($quote (a . -1/2))", "(a . -1/2)");
        t.is("($quote #1=(a . #1#))", "#0=(a . #0#)");
        t.faults(".", 0);
        t.faults("a .", 2);
        t.faults("a . b", 2);
        t.faults("(.", 1);
        t.faults("( . )", 2);
        t.faults("( . a)", 2);
        t.faults("((a) (. b))", 6);
        t.faults("#1=(. a)", 4);
    }

    /** "behind a label what is no ( , or the ) of a ( )" */
    private static void behindLabels() {
        Tongue t = new Tongue();
        for (String token : new String[] {")", "\"a\"", "a", "1", "-1/2", "#t", "#inert", ".", "#2=(b)", "#1#", "#2#", "\"a", "\"\\q\"", "1/0", "#foo", OVER}) {
            t.faults("#1= " + token, 4);
            t.faults("#1=\n;(a)\n" + token, 9);
            t.faults("(b #1= " + token + ")", 7);
        }
        t.faults("#1=\u0001", 3);
        t.faults("#1=()", 4);
        t.faults("#1=( )", 5);
        t.faults("#1=(;\n)", 6);
        t.faults("(#1=())", 5);
        t.is("($quote #1=(()))", "(())");
        t.is("($quote #1= \n ( a ))", "(a)");
        // What is behind it is its datum, and nothing more.
        t.is("($quote (#1=(a) b \"c\" . d))", "((a) b \"c\" . d)");
    }

    /** "behind a . and its datum what is no )" */
    private static void behindDots() {
        Tongue t = new Tongue();
        for (String token : new String[] {"(", "\"a\"", "c", "1", "-1/2", "#t", "#inert", ".", "#2=(b)", "#1#", "#2#", "\"a", "\"\\q\"", "1/0", "#foo", OVER,
            "()", "\u0001"}) {
            t.faults("(a . b " + token, 7);
            t.faults("(a . (b) " + token + ")", 9);
            t.faults("(a . #1=(b) " + token + ")", 12);
            t.faults("((a . b ;)\n" + token + "))", 11);
        }
        // Behind a . itself.
        t.faults("(a .)", 4);
        t.faults("(a . )", 5);
        t.faults("(a . .", 5);
        t.faults("(a . . b)", 5);
        t.faults("(a . 1/0)", 5);
        t.faults("(a . #1#)", 5);
        t.faults("(a . #1=b)", 5);
        t.faults("(a . #1= b)", 9);
        t.faults("(a . #1=())", 9);
        t.is("($quote (a . #1=(b . #1#)))", "(a . #0=(b . #0#))");
    }

    /** "parentheses within one another at most 100"; "the 101st ( that would be open" */
    private static void depthOfParentheses() {
        Tongue t = new Tongue();
        t.is("($quote" + "(".repeat(99) + ")".repeat(99) + ")", "(".repeat(99) + ")".repeat(99));
        t.faults("($quote" + "(".repeat(100) + ")".repeat(100) + ")", 7 + 99);
        t.faults("(".repeat(100), 100);
        t.faults("(".repeat(101), 100);
        t.faults("(".repeat(102), 100);
        t.faults(" ( ".repeat(101), 301);
        t.faults("(".repeat(100) + ")".repeat(101), 200);
        // Those that are closed are not open.
        t.is("($quote (" + "()".repeat(150) + "))", "(" + "() ".repeat(149) + "())");
        t.is("($quote " + "(".repeat(99) + ")".repeat(50) + "(".repeat(50) + ")".repeat(99) + ")",
            "(".repeat(99) + ")".repeat(50) + " " + "(".repeat(50) + ")".repeat(99));
        t.faults("(".repeat(100) + ")".repeat(50) + "(".repeat(50) + "(", 200);
        Tongue.due("data in a row", t.run(("($quote " + "(".repeat(99) + ")".repeat(100)).repeat(3)), 3);
        // Those behind dots and labels are within one another, too.
        t.is("($quote " + "(a . ".repeat(99) + "b" + ")".repeat(99) + ")", "(" + "a ".repeat(99) + ". b)");
        t.faults("($quote " + "(a . ".repeat(99) + "(b)", 8 + 495);
        t.is("($quote " + "(".repeat(98) + "#1=(a)" + ")".repeat(98) + ")", "(".repeat(99) + "a" + ")".repeat(99));
        t.faults("($quote " + "(".repeat(99) + "#1=(a)", 8 + 99 + 3);
        // The hundredth is a list like the others.
        String deep = "($quote " + "(".repeat(98);
        t.is(deep + "(a . b)" + ")".repeat(99), "(".repeat(99) + "a . b" + ")".repeat(99));
        t.faults(deep + "(a . b c", 106 + 7);
        t.faults(deep + "(a . b (c", 106 + 7);
        t.faults(deep + "(a . b \"\\q\"", 106 + 7);
        t.faults(deep + "(a . )", 106 + 5);
        t.faults(deep + "(a . . b", 106 + 5);
        t.faults(deep + "(. b", 106 + 1);
        t.faults(deep + "#1=()", 106 + 4);
        t.faults(deep + "(a . b", 106 + 6);
        // In strings and remarks there are none.
        t.is("(string-length \"" + "(".repeat(101) + "\")", "101");
        Tongue.due("in a remark", t.run("1 ;" + "(".repeat(101) + "\n2"), 2);
    }

    private static void firstFault() {
        Tongue t = new Tongue();
        t.faults(") #foo", 0);
        t.faults("a ) #foo", 2);
        t.faults("#foo )", 0);
        t.faults("(a . b c #foo", 7);
        t.faults("(a \u0001 \"", 3);
        t.faults("a \" #foo", 2);
        t.faults("(\"a\\q\" . ", 3);
        t.faults("(\"a\\n\" . )", 9);
        t.faults("()) (", 2);
        t.faults("(a))", 3);
        t.faults("a)b", 1);
    }

    /** "... or the text's length" */
    private static void textsWithoutAnEnd() {
        String[] texts = {"(", "(a", "(a ", "((a)", "(a .", "(a . ", "(a . b", "(a . b ", "(a . (b", "(a . (b)", "#1=", "#1= ", "#1=(", "#1=(a", "(#1=", "(a . #1=",
            "(a ; )", "(a \n", "(\"a\"", "1 2 (", "(() ()"};
        for (String text : texts) {
            Tongue.freshFaults(text, text.length());
        }
    }

    /** "a SYMBOL (of any length)" */
    private static void lengthOfSymbols() {
        for (int n : new int[] {1, 2, 39, 40, 41, 1000, 1001, 4000}) {
            String name = "s".repeat(n);
            Tongue.fresh("($quote " + name + ")", n <= 1000 ? name : name.substring(0, 1000) + "...");
            Tongue.fresh("(string-length (symbol->string ($quote " + name + ")))", "" + n);
        }
        Tongue t = Tongue.with("($define! " + "v".repeat(3000) + " 5)");
        t.is("v".repeat(3000), "5");
        t.fails("v".repeat(2999), "unbound: " + "v".repeat(191));
        String all = "w".repeat(4096);
        t.fails(all, "unbound: " + "w".repeat(191));
    }
}
