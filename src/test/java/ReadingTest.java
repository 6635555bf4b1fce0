/** READING: tokens, data, labels, and the places of faults (promises 2 to 4). */
public final class ReadingTest {
    public static void main(String[] args) {
        data();
        numbers();
        labels();
        faults();
        labelFaults();
        stringFaults();
        depth();
        counted();
        Tongue.close();
    }

    private static void data() {
        Tongue t = new Tongue();
        t.is("($quote (a (b . c) () . d))", "(a (b . c) () . d)");
        t.is("($quote(a\"b\"(c)d;remark\ne))", "(a \"b\" (c) d e)");
        t.is("($quote (a . (b . (c . ()))))", "(a b c)");
        t.is("($quote (a .b .. ... -. a.b))", "(a .b .. ... -. a.b)");
        t.is("($quote (a .(b)))", "(a b)");
        t.is(" ; only\r\n\t#inert ; end", "#inert");
        t.is("($quote (#t #f #ignore ()))", "(#t #f #ignore ())");
        t.is("\"a\\\\b\\\"c\\nd\ne;(\"", "\"a\\\\b\\\"c\\nd\\ne;(\"");
        t.is("($quote (+ - 1+ -a 1/ /2 1/2/3 1.5 a# '`,{~))", "(+ - 1+ -a 1/ /2 1/2/3 1.5 a# '`,{~)");
        String longName = "s".repeat(900);
        t.is("($quote " + longName + ")", longName);
        Tongue.due("data without blanks", t.run("1\"a\"()\"b\"#t;x\n5"), 6);
    }

    private static void numbers() {
        Tongue t = new Tongue();
        t.is("($quote (007 -0 4/6 -4/6 0/5 6/3 -00/7))", "(7 0 2/3 -2/3 0 2 0)");
        String most = java.math.BigInteger.TWO.pow(2048).subtract(java.math.BigInteger.ONE).toString();
        String over = java.math.BigInteger.TWO.pow(2048).toString();
        t.is(most, most);
        t.is("-" + most, "-" + most);
        t.is("0000" + most, most);
        t.is("1/" + most, "1/" + most);
        t.faults(over, 0);
        t.faults("1 -" + over, 2);
        t.faults("(1/" + over, 1);
        t.faults("1/0", 0);
        t.faults("a -5/000", 2);
    }

    private static void labels() {
        Tongue t = new Tongue();
        t.is("($quote #0=(a . #0#))", "#0=(a . #0#)");
        t.is("($quote #7=(a #7# b))", "#0=(a #0# b)");
        t.is("($quote (#1=(a) #1# . #1#))", "((a) (a) a)");
        t.is("(eq? ($quote #0001=(a)) ($quote #1#))", "#t");
        t.is("($quote #0= ; remark\n (a #1=(b #0#) #1#))", "#0=(a (b #0#) (b #0#))");
        t.is("($quote (a . #9999=(b . #9999#)))", "(a . #0=(b . #0#))");
        t.is("#5=($quote (1 2)) #5#", "(1 2)");
        t.is("#0=($if #f #0# 5)", "5");
    }

    private static void faults() {
        Tongue t = new Tongue();
        t.faults("(a b", 4);
        t.faults("(a b ; no end ", 14);
        t.faults("a)", 1);
        t.faults("(a . )", 5);
        t.faults("( . a)", 2);
        t.faults(" . ", 1);
        t.faults("(a . b c)", 7);
        t.faults("(a . b . c)", 7);
        t.faults("(a . b (", 7);
        t.faults("(a . . b)", 5);
        t.faults("(a . b ", 7);
        t.faults("(#foo)", 1);
        t.faults("#", 0);
        t.faults("a #T", 2);
        t.faults("ab \"cd", 3);
        t.faults("ab \"cd\\", 3);
        t.faults("ab \"c\\\\\\", 3);
        t.faults("\"a\\qb\"", 2);
        t.faults("\"a\\qb", 2);
        t.faults("\"a\\\nb\"", 2);
        t.faults("(a \u0001)", 3);
        t.faults("a\u007f", 1);
        t.faults("(\u00e9", 1);
        t.faults("(a\u000bb)", 2);
        t.faults("1 \0", 2);
    }

    private static void labelFaults() {
        Tongue t = new Tongue();
        t.faults("#0=a", 0);
        t.faults("#0= a", 4);
        t.faults("(#0= )", 5);
        t.faults("#0=()", 4);
        t.faults("#0= \"s\"", 4);
        t.faults("#0= #1=(a)", 4);
        t.faults("#0=", 3);
        t.faults("#0=(", 4);
        t.faults("#0=( . a)", 5);
        t.faults("#0#", 0);
        t.faults("(#0# #0=(a))", 1);
        t.faults("#0=(a) #0=(b)", 7);
        t.faults("#0=(a #00=(b))", 6);
        t.faults("#12345=(a)", 0);
        t.faults("#=(a)", 0);
        t.faults("#1x=(a)", 0);
        t.faults("(a . b #0=(c))", 7);
        // The labels of one text are not those of the next one.
        t.is("($quote #0=(a))", "(a)");
        t.faults("#0#", 0);
        t.is("($quote #0=(b))", "(b)");
    }

    /** A bad backslash is a fault where it is, unless the string can't stand at all. */
    private static void stringFaults() {
        Tongue t = new Tongue();
        int made = t.x.made();
        // Behind a dot and its datum.
        t.faults("(a . b \"\\q\")", 7);
        t.faults("(a . b \"\\q", 7);
        t.faults("(a . b\"\\q\")", 6);
        t.faults("(a . b \"x\")", 7);
        t.faults("(a . b \"x", 7);
        t.faults("(a . \"b\" \"cd\\\\\\q\")", 9);
        t.faults("(a . (b) ; remark\n \"\\q\")", 19);
        t.faults("((a . b) . c \"\\q\")", 13);
        // Behind a label.
        t.faults("#0=\"\\q\"", 3);
        t.faults("#0= \"\\q", 4);
        t.faults("#0=\"s\"", 3);
        t.faults("#0=\"s", 3);
        t.faults("(a . b #0=\"\\q\")", 7);
        t.faults("(a . #12=\"xyz\\q\")", 9);
        Tongue.due("lists that were closed count, strings that can't stand don't", t.x.made() - made, 2 + 1 + 1);
        // Where a string can stand.
        t.faults("\"\\q\"", 1);
        t.faults("(\"\\q\")", 2);
        t.faults("(a \"\\q\")", 4);
        t.faults("(a . \"\\q\")", 6);
        t.faults("(a . \"\\q", 6);
        t.faults("#0=(\"\\q\")", 5);
        t.faults("((a . b) \"\\q\")", 10);
        t.faults("(a . b) \"\\q\"", 9);
        t.faults("#0=(a) \"\\q\"", 8);
    }

    private static void depth() {
        Tongue t = new Tongue();
        t.is("($quote " + "(".repeat(99) + ")".repeat(99) + ")", "(".repeat(99) + ")".repeat(99));
        t.faults("(".repeat(101), 100);
        t.faults("($quote " + "(".repeat(100) + ")".repeat(100) + ")", 107);
        t.faults("(".repeat(100) + "a", 101);
    }

    private static void counted() {
        Tongue t = new Tongue();
        int made = t.x.made();
        t.faults("(a b) \"x\" 123456789012345678901234567890 (c d", 45);
        Tongue.due("what was read of a faulty text", t.x.made() - made, 2 + 2 + 3);
        made = t.x.made();
        t.faults("((a) b . c", 10);
        Tongue.due("a list counts when it is closed", t.x.made() - made, 1);
        made = t.x.made();
        t.run("1/3 9223372036854775807 9223372036854775808 -9223372036854775808 18446744073709551616");
        Tongue.due("numbers", t.x.made() - made, 3 + 0 + 2 + 0 + 3);
    }
}
