import java.math.BigInteger;
import java.util.Random;

/** Exact numbers: the applicatives from + to odd?, against java.math (promises 4, 5, 8, 11). */
public final class NumbersTest {
    private static final BigInteger LIMIT = BigInteger.TWO.pow(2048);

    public static void main(String[] args) {
        plain();
        rounding();
        errors();
        limits();
        order();
        counted();
        divisions();
        atTheEndsOfRows();
        Random random = new Random(7);
        for (int i = 0; i < 250; i++) {
            randomOnes(random);
        }
        Tongue.close();
    }

    private static void plain() {
        Tongue t = new Tongue();
        t.is("(list (+) (*) (+ 5) (* 5) (- 5) (/ 5) (/ -2/3) (- 7 1 2) (/ 12 2 3) (+ 1/2 1/3 1/6))", "(0 1 5 5 -5 1/5 -3/2 4 2 1)");
        t.is("(list (div 7 2) (div -7 2) (div 7 -2) (div -7 -2) (mod 7 2) (mod -7 2) (mod 7 -2) (mod -7 -2) (div 6 -3) (mod 6 -3))",
            "(3 -4 -4 3 1 1 -1 -1 -2 0)");
        t.is("(list (div -9223372036854775808 -1) (mod -9223372036854775808 -1) (abs -9223372036854775808) (- -9223372036854775808))",
            "(9223372036854775808 0 9223372036854775808 9223372036854775808)");
        t.is("(list (numerator -4/6) (denominator -4/6) (numerator 5) (denominator 5) (abs -4/6) (abs 3))", "(-2 3 5 1 2/3 3)");
        t.is("(list (gcd) (gcd -4) (gcd 12 18 -30) (gcd 0 0) (lcm) (lcm -4) (lcm 4 6 -10) (lcm 0 5) (lcm 5 0 7))", "(0 4 6 0 1 4 60 0 0)");
        t.is("(list (expt 0 0) (expt 0 5) (expt 2/3 3) (expt -2 3) (expt -1 10000) (expt 1 9999) (expt 7 0) (expt -1/2 2))", "(1 0 8/27 -8 1 1 1 1/4)");
        t.is("(list (- 9223372036854775807 -1) (+ 9223372036854775807 1 -1) (* 4294967296 4294967296) (- -9223372036854775808 1))",
            "(9223372036854775808 9223372036854775807 18446744073709551616 -9223372036854775809)");
    }

    private static void rounding() {
        Tongue t = new Tongue();
        t.is("(map floor (list 5/2 -5/2 7/3 -7/3 4))", "(2 -3 2 -3 4)");
        t.is("(map ceiling (list 5/2 -5/2 7/3 -7/3 4))", "(3 -2 3 -2 4)");
        t.is("(map truncate (list 5/2 -5/2 7/3 -7/3 -4))", "(2 -2 2 -2 -4)");
        t.is("(map round (list 5/2 -5/2 7/2 -7/2 7/3 8/3 -7/3 -8/3 1/2 -1/2 3/2))", "(2 -2 4 -4 2 3 -2 -3 0 0 2)");
    }

    private static void errors() {
        Tongue t = new Tongue();
        for (String f : new String[] {"+", "*", "-", "/", "min", "max", "<?", "<=?", ">?", ">=?", "=?"}) {
            t.fails("(" + f + " 1 #t)", "bad arguments: " + f);
            t.fails("(" + f + " () 1)", "bad arguments: " + f);
        }
        for (String f : new String[] {"gcd", "lcm", "div", "mod"}) {
            t.fails("(" + f + " 1 1/2)", "bad arguments: " + f);
            t.fails("(" + f + " \"a\" 1)", "bad arguments: " + f);
        }
        for (String f : new String[] {"numerator", "denominator", "abs", "floor", "ceiling", "truncate", "round", "zero?", "positive?",
            "negative?", "even?", "odd?"}) {
            t.fails("(" + f + " #t)", "bad arguments: " + f);
            t.fails("(" + f + " 1 2)", "bad arguments: " + f);
            t.fails("(" + f + ")", "bad arguments: " + f);
        }
        for (String f : new String[] {"-", "/", "min", "max", "<?", "=?", "div", "mod", "expt"}) {
            t.fails("(" + f + ")", "bad arguments: " + f);
        }
        t.fails("(even? 1/2)", "bad arguments: even?");
        t.fails("(odd? 1/2)", "bad arguments: odd?");
        t.fails("(div 1 2 3)", "bad arguments: div");
        t.fails("(expt 2 -1)", "bad arguments: expt");
        t.fails("(expt 2 10001)", "bad arguments: expt");
        t.fails("(expt 2 1/2)", "bad arguments: expt");
        t.fails("(expt 0 18446744073709551616)", "bad arguments: expt");
        t.fails("(/ 0)", "divided by zero");
        t.fails("(/ 1 2 0)", "divided by zero");
        t.fails("(/ 1 0 #t)", "bad arguments: /");
        t.fails("(div 1 0)", "divided by zero");
        t.fails("(mod 0 0)", "divided by zero");
        t.fails("(div 1/2 0)", "bad arguments: div");
    }

    private static void limits() {
        Tongue t = new Tongue();
        t.run("($define! m (- (* 2 (expt 2 2047)) 1))");
        Tongue.due("2 to the power 2048 on the way", t.x.state(), 1);
        t.run("($define! h (expt 2 2047)) ($define! m (+ h (- h 1)))");
        t.is("(list (=? m " + LIMIT.subtract(BigInteger.ONE) + ") (- m m) (div m m))", "(#t 0 1)");
        t.fails("(+ m 1)", "too great");
        t.fails("(- -1 m)", "too great");
        t.fails("(+ m 1 -1)", "too great");
        t.is("(=? m (+ -1 m 1))", "#t");
        t.fails("(* h 2 1/2)", "too great");
        t.is("(=? h (* h 1/2 2))", "#t");
        t.fails("(expt 2 2048)", "too great");
        t.fails("(expt 1/2 2048)", "too great");
        t.is("(=? (expt -2 2047) (- h))", "#t");
        t.fails("(expt h 3)", "too great");
        t.fails("(expt (/ 1 h) 3)", "too great");
        t.fails("(+ (/ 1 m) (/ 1 h))", "too great");
        t.is("(+ (/ 1 m) (/ -1 m))", "0");
        t.is("(=? (+ (/ 1 h) (/ 1 h)) (/ 2 h))", "#t");
        t.fails("(lcm m h)", "too great");
        t.fails("(lcm m h 0)", "too great");
        t.is("(lcm 0 m h)", "0");
        t.is("(* m (/ 1 m))", "1");
        t.is("(/ m m)", "1");
        t.fails("(floor (/ (- m) 1/2))", "too great");
        t.is("(=? (ceiling (/ (- m) 2)) (- 1 h))", "#t");
        t.is("(=? (floor (/ (- m) 2)) (- h))", "#t");
    }

    private static void order() {
        Tongue t = new Tongue();
        t.is("(list (<? 1) (<? 1 2 3) (<? 1 2 2) (<=? 1 2 2) (<=? 2 1) (>? 3 2 1) (>? 3 3) (>=? 3 3 1) (>=? 1 2) (=? 1 1 1) (=? 1 1 2))",
            "(#t #t #f #t #f #t #f #t #f #t #f)");
        t.is("(list (<? 1/3 1/2) (<? -1/2 -1/3) (<? -1/2 0 1/2) (=? 1/2 2/4) (<? 9223372036854775807 9223372036854775808) (>? -1 -18446744073709551616))",
            "(#t #t #t #t #t #t)");
        t.is("(list (min 3 1/2 2) (max 3 1/2 7/2) (min 5) (max -18446744073709551616 -5) (min -18446744073709551616 -5))",
            "(1/2 7/2 5 -5 -18446744073709551616)");
        t.is("(list (zero? 0) (zero? 1/2) (positive? 1/2) (positive? 0) (positive? -1) (negative? -1/2) (negative? 0))", "(#t #f #t #f #f #t #f)");
        t.is("(list (even? 0) (even? -3) (odd? -3) (odd? 18446744073709551617) (even? 18446744073709551616) (odd? 2))", "(#t #f #t #t #t #f)");
    }

    private static void counted() {
        Tongue t = new Tongue();
        t.run("($define! b 18446744073709551616) ($define! f 1/3) ($define! s -9223372036854775808)");
        t.takes("(abs b)", 3, 2 + 1 + 3);
        t.takes("(+ b)", 3, 2 + 1 + 3);
        t.takes("(max b)", 3, 2 + 1);
        t.takes("(- f)", 3, 2 + 1 + 3);
        t.takes("(numerator f)", 3, 2 + 1);
        t.takes("(- s)", 3, 2 + 1 + 2);
        t.takes("(- s -1)", 4, 3 + 2);
        t.takes("(* 4294967296 4294967296)", 4, 3 + 2 + 1 + 2);
        t.takes("(* f 3)", 4, 3 + 2);
        t.takes("(/ 1 b)", 4, 3 + 2 + 1 + 1 + 2);
        t.takes("(expt 2 2047)", 4, 3 + 2 + 1 + 32);
        t.takes("(<? b f)", 4, 3 + 2);
        // What comes on the way does not count.
        t.takes("(- (expt 2 64) b 0)", 4 + 4, 4 + 3 + 2 + 3 + 3);
        t.takes("(+ f 1/3 1/3)", 5, 4 + 6 + 3);
    }

    /** Those where a digit of the quotient that is guessed by the highest digits is one too great, in rows of 30 bits. */
    private static void divisions() {
        String[] x = {"713623847017593938421600921753111850634969087", "713623847017593939659540961038492124460351488",
            "713623846352979940529142988183512084159397891", "2475880077417839047875756033", "664613997892457935298982025533325315",
            "2658455990331891707675155349731540991"};
        String[] y = {"664613999130397977466666061949566979", "664613999130397978043126818011086847", "664613999130397978619587566556413951",
            "1237940038708919524206313473", "618970020219150889216114688", "1329227995165945854414038426900758528"};
        for (int i = 0; i < x.length; i++) {
            BigInteger a = new BigInteger(x[i]);
            BigInteger b = new BigInteger(y[i]);
            for (int shift = 0; shift < 61; shift++) {
                // Behind other digits, and not in their places.
                BigInteger above = a.add(b.shiftLeft(60 + shift));
                BigInteger low = b.shiftLeft(shift);
                BigInteger high = a.shiftLeft(shift);
                Tongue t = new Tongue();
                t.is("(list (div " + a + " " + b + ") (mod " + a + " " + b + "))", "(" + a.divide(b) + " " + a.mod(b) + ")");
                t.is("(list (div " + above + " " + b + ") (mod " + above + " " + b + "))", "(" + above.divide(b) + " " + above.mod(b) + ")");
                t.is("(list (div " + high + " " + low + ") (mod " + high + " " + low + "))", "(" + high.divide(low) + " " + high.mod(low) + ")");
            }
        }
    }

    /** Where numbers begin to need one row more: each with each. */
    private static void atTheEndsOfRows() {
        int[] powers = {0, 1, 29, 30, 31, 32, 59, 60, 62, 63, 64, 90, 128};
        BigInteger[] numbers = new BigInteger[6 * powers.length];
        for (int i = 0; i < powers.length; i++) {
            for (int j = 0; j < 3; j++) {
                numbers[6 * i + 2 * j] = BigInteger.TWO.pow(powers[i]).add(BigInteger.valueOf(j - 1));
                numbers[6 * i + 2 * j + 1] = numbers[6 * i + 2 * j].negate();
            }
        }
        for (BigInteger a : numbers) {
            for (BigInteger b : numbers) {
                Tongue t = new Tongue();
                t.is("($define! a " + a + ") ($define! b " + b + ") (list (+ a b) (- a b) (* a b) (gcd a b) (<? a b) (=? a b) (eq? a b))",
                    "(" + a.add(b) + " " + a.subtract(b) + " " + a.multiply(b) + " " + a.gcd(b) + (a.compareTo(b) < 0 ? " #t" : " #f")
                    + (a.equals(b) ? " #t #t)" : " #f #f)"));
                if (b.signum() != 0) {
                    t.is("(list (div a b) (mod a b))", "(" + down(a, b) + " " + a.subtract(b.multiply(down(a, b))) + ")");
                    due(t, "(/ a b)", a, b);
                }
            }
        }
    }

    private static BigInteger big(Random random) {
        int[] bits = {1, 8, 30, 31, 60, 62, 63, 64, 65, 90, 120, 500, 1000, 1023, 1024, 2000, 2047, 2048};
        BigInteger x = new BigInteger(bits[random.nextInt(bits.length)], random);
        if (random.nextInt(8) == 0) {
            x = BigInteger.ONE.shiftLeft(bits[random.nextInt(bits.length - 1)]).subtract(BigInteger.valueOf(random.nextInt(3)));
        }
        return random.nextBoolean() ? x.negate() : x;
    }

    private static String word(BigInteger n, BigInteger d) {
        return d.equals(BigInteger.ONE) ? n.toString() : n + "/" + d;
    }

    private static BigInteger down(BigInteger a, BigInteger b) {
        BigInteger[] parts = a.divideAndRemainder(b);
        return parts[1].signum() != 0 && parts[1].signum() != b.signum() ? parts[0].subtract(BigInteger.ONE) : parts[0];
    }

    /** Asks whether the text's value is n / d; or, where that is too great, whether it says so. */
    private static void due(Tongue t, String text, BigInteger n, BigInteger d) {
        BigInteger g = n.gcd(d).multiply(BigInteger.valueOf(d.signum()));
        BigInteger top = n.divide(g);
        BigInteger bottom = d.divide(g);
        if (top.abs().compareTo(LIMIT) >= 0 || bottom.compareTo(LIMIT) >= 0) {
            t.fails(text, "too great");
            return;
        }
        t.is("(=? " + text + " " + word(top, bottom) + ")", "#t");
        String want = word(top, bottom);
        t.is(text, want.length() > 1000 ? want.substring(0, 1000) + "..." : want);
    }

    private static void randomOnes(Random random) {
        BigInteger a = big(random);
        BigInteger b = big(random).abs().max(BigInteger.ONE);
        BigInteger c = big(random);
        BigInteger d = random.nextInt(3) == 0 ? b : big(random).abs().max(BigInteger.ONE);
        if (random.nextInt(3) == 0) {
            b = BigInteger.ONE;
            d = BigInteger.ONE;
        }
        Tongue t = new Tongue();
        String x = "(/ " + a + " " + b + ")";
        String y = "(/ " + c + " " + d + ")";
        t.run("($define! x " + x + ") ($define! y " + y + ") ($define! a " + a + ") ($define! c " + c + ")");
        due(t, "(+ x y)", a.multiply(d).add(c.multiply(b)), b.multiply(d));
        due(t, "(- x y)", a.multiply(d).subtract(c.multiply(b)), b.multiply(d));
        due(t, "(* x y)", a.multiply(c), b.multiply(d));
        t.is("(list (<? x y) (=? x y))", a.multiply(d).compareTo(c.multiply(b)) < 0 ? "(#t #f)"
            : a.multiply(d).equals(c.multiply(b)) ? "(#f #t)" : "(#f #f)");
        due(t, "(floor x)", down(a, b), BigInteger.ONE);
        due(t, "(round x)", rounded(a, b), BigInteger.ONE);
        due(t, "(gcd a c)", a.gcd(c), BigInteger.ONE);
        due(t, "(expt x 3)", a.pow(3), b.pow(3));
        if (c.signum() != 0) {
            due(t, "(/ x y)", a.multiply(d), b.multiply(c));
            due(t, "(div a c)", down(a, c), BigInteger.ONE);
            due(t, "(mod a c)", a.subtract(c.multiply(down(a, c))), BigInteger.ONE);
            due(t, "(lcm a c)", a.multiply(c).abs().divide(a.gcd(c)), BigInteger.ONE);
        }
        int radix = 2 + random.nextInt(35);
        if (a.bitLength() < 190) {
            t.is("(number->string a " + radix + ")", "\"" + a.toString(radix) + "\"");
        }
    }

    private static BigInteger rounded(BigInteger a, BigInteger b) {
        BigInteger low = down(a, b);
        int half = a.subtract(low.multiply(b)).shiftLeft(1).compareTo(b);
        return half > 0 || half == 0 && low.testBit(0) ? low.add(BigInteger.ONE) : low;
    }
}
