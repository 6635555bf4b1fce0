import java.util.NoSuchElementException;

/**
 * A machine for a small language whose operatives, environments and continuations are values.
 * Texts are fed to a tape, run with some fuel, and asked for their output and last value.
 */
public final class EnvironTongue {
    public static final int NONE = -1;

    private static final int TAPE_ROOM = 4096;
    private static final int OUTPUT_ROOM = 4096;
    private static final int FEED_BYTES = 20;
    private static final int FUEL_MOST = 30000;
    private static final int MADE_MOST = 30000;
    private static final int LIST_MOST = 1000;
    private static final int TREE_MOST = 200;
    private static final int COMPARISONS_MOST = 10000;
    private static final int NESTING_MOST = 100;
    /** No text of the tape's length can have so many. */
    private static final int LABELS_ROOM = 1024;
    private static final int TEXT_MOST = 1000;
    private static final int MESSAGE_MOST = 200;
    private static final int STRING_MOST = 1000;
    private static final int NAME_MOST = 40;
    private static final int POWER_MOST = 10000;
    /** Far above what any run can need: it only lets each loop's end be seen. */
    private static final int STEPS_MOST = 1000000000;
    private static final int WALK_MOST = 1000000;

    // What a run was answered with.
    private static final int FINE = 0;
    private static final int WRONG = 1;
    private static final int NO_FUEL = 2;
    private static final int USED_UP = 3;

    // What the machine does next; those from OPERATIVE to INNER are the groups of the ground's names, too.
    private static final int EVALUATE = 0;
    private static final int DELIVER = 1;
    private static final int COMBINE = 2;
    private static final int RAISE = 3;
    private static final int RAISE_ABOUT = 4;
    private static final int ATOM = 5;
    private static final int OPERATIVE = 6;
    private static final int MAKERS = 7;
    private static final int LISTS = 8;
    private static final int SUMS = 9;
    private static final int WHOLES = 10;
    private static final int ORDER = 11;
    private static final int TESTS = 12;
    private static final int KINDS = 13;
    private static final int CONTROL = 14;
    private static final int STRINGS = 15;
    private static final int OUTPUT = 16;
    private static final int INNER = 17;
    private static final int DONE = 18;
    private static final int ENDED = 19;

    // The kinds of things.
    private static final int APPLICATIVE = 1;
    private static final int COMPOUND = 2;
    private static final int KEYED = 3;
    private static final int CONTINUATION = 4;
    private static final int CAPSULE = 5;
    private static final int PROMISE = 6;

    // The kinds of frames: what waits for a value.
    private static final int AT_ROOT = 0;
    private static final int AT_OPERATOR = 1;
    private static final int AT_ARGUMENT = 2;
    private static final int AT_SEQUENCE = 3;
    private static final int AT_IF = 4;
    private static final int AT_COND = 5;
    private static final int AT_AND = 6;
    private static final int AT_OR = 7;
    private static final int AT_DEFINE = 8;
    private static final int AT_PLACE = 9;
    private static final int AT_SET = 10;
    private static final int AT_LET = 11;
    private static final int AT_BINDS = 12;
    private static final int AT_HANDLER = 13;
    private static final int AT_CATCH = 14;
    private static final int AT_FORCE = 15;
    private static final int AT_MAP = 16;
    private static final int AT_EXTENDED = 17;
    private static final int AT_PASSAGE = 18;
    private static final int AT_GUARD = 19;
    private static final int AT_DYNAMIC = 20;

    // Where an environment keeps its bindings.
    private static final int OWN_ROW = 0;
    private static final int OF_GROUND = 1;
    private static final int OF_GLOBAL = 2;

    private static final Ground[] GROUNDS = Ground.values();

    private static final int LIBRARY_LINES = 23;

    private final Text tape;
    private final Machine machine;

    public EnvironTongue() {
        tape = new Text(new byte[TAPE_ROOM], 0, false);
        machine = new Machine();
        Text buffer = new Text(new byte[TAPE_ROOM], 0, false);
        machine.furnish(buffer);
        buffer.length = 0;
        for (int i = 0; i < LIBRARY_LINES; i++) {
            buffer.append(library(i));
        }
        machine.prepare(FUEL_MOST);
        machine.notation.read(machine, buffer);
        machine.work(machine.ground);
        machine.forget();
    }

    /** A line of the document's library. */
    private static String library(int line) {
        switch (line) {
            case 0:
                return "($define! list* ($lambda (a . l) ($if (null? l) a (cons a (apply list* l)))))";
            case 1:
                return "($define! caar ($lambda (p) (car (car p)))) ($define! cadr ($lambda (p) (car (cdr p)))) ($define! cdar ($lambda (p) (cdr (car p)))) ($define! cddr ($lambda (p) (cdr (cdr p)))) ($define! caddr ($lambda (p) (car (cddr p))))";
            case 2:
                return "($define! list-ref ($lambda (l n) (car (list-tail l n))))";
            case 3:
                return "($define! $when ($vau (t . b) e ($if (eval t e) (eval (cons $sequence b) e) #inert))) ($define! $unless ($vau (t . b) e ($if (eval t e) #inert (eval (cons $sequence b) e))))";
            case 4:
                return "($define! $let* ($vau (l . b) e (eval ($if (null? l) (list* $let l b) (list $let (list (car l)) (list* $let* (cdr l) b))) e)))";
            case 5:
                return "($define! $letrec ($vau (l . b) e (eval (list* $let () (list $define! (map car l) (list* list (map cadr l))) b) e)))";
            case 6:
                return "($define! $let-redirect ($vau (x l . b) e (eval (list* (eval (list* $lambda (map car l) b) (eval x e)) (map cadr l)) e)))";
            case 7:
                return "($define! $bindings->environment ($vau l e (eval (list $let-redirect (make-environment) l (list $current)) e)))";
            case 8:
                return "($define! $remote-eval ($vau (x y) e (eval x (eval y e))))";
            case 9:
                return "($define! $provide! ($vau (s . b) e (eval (list $define! s (list $let () (list* $sequence b) (list* list s))) e)))";
            case 10:
                return "($define! $import! ($vau (x . s) e (eval (list $set! e s (cons list s)) (eval x e))))";
            case 11:
                return "($define! filter ($lambda (f l) ($if (null? l) l ($if (apply f (list (car l))) (cons (car l) (filter f (cdr l))) (filter f (cdr l))))))";
            case 12:
                return "($define! reduce ($lambda (l f z) ($if (null? l) z ($if (null? (cdr l)) (car l) (f (car l) (reduce (cdr l) f z))))))";
            case 13:
                return "($define! fold ($lambda (f z l) ($if (null? l) z (fold f (f z (car l)) (cdr l)))))";
            case 14:
                return "($define! assoc ($lambda (x l) ($cond ((null? l) l) ((equal? x (caar l)) (car l)) (#t (assoc x (cdr l)))))) ($define! member? ($lambda (x l) ($if (null? l) #f ($if (equal? x (car l)) #t (member? x (cdr l))))))";
            case 15:
                return "($define! for-each ($lambda x ($sequence (apply map x) #inert)))";
            case 16:
                return "($define! sort ($lambda (f l) ($if (null? l) l ($let ((a (car l)) (r (cdr l))) (append (sort f (filter ($lambda (x) (f x a)) r)) (list a) (sort f (filter ($lambda (x) (not? (f x a))) r)))))))";
            case 17:
                return "($define! iota ($lambda (n a) ($if (<=? n 0) () (cons a (iota (- n 1) (+ a 1))))))";
            case 18:
                return "($define! compose ($lambda (f g) ($lambda x (f (apply g x)))))";
            case 19:
                return "($define! $while ($vau (t . b) e ($let ((go ($lambda (go) ($when (eval t e) (eval (cons $sequence b) e) (go go))))) (go go))))";
            case 20:
                return "($define! $stream ($vau (a d) e (cons (eval a e) (eval (list $lazy d) e)))) ($define! stream-head ($lambda (s n) ($if (<=? n 0) () (cons (car s) (stream-head (force (cdr s)) (- n 1))))))";
            case 21:
                return "($define! call-escape ($lambda (f) (call/cc ($lambda (k) (f ($lambda (x) (throw k x)))))))";
            default:
                return "($define! dynamic-wind ($lambda (a f b) ($sequence (a) ($let ((x (guard-dynamic-extent () f (list (list root ($lambda (v d) ($sequence (b) v))))))) ($sequence (b) x)))))";
        }
    }

    public boolean feed(int a, int b, int c, int d, int e) {
        if (tape.length + FEED_BYTES > TAPE_ROOM) {
            return false;
        }
        tape.putFour(a);
        tape.putFour(b);
        tape.putFour(c);
        tape.putFour(d);
        tape.putFour(e);
        return true;
    }

    public boolean end(int n) {
        if (n < 0 || n > tape.length) {
            return false;
        }
        tape.length = n;
        return true;
    }

    public int run(int fuel) {
        int answer = NONE;
        if (fuel >= 0 && fuel <= FUEL_MOST && machine.state != USED_UP) {
            machine.prepare(fuel);
            int fault = machine.notation.read(machine, tape);
            answer = fault >= 0 ? -2 - fault : machine.work(machine.global);
        }
        tape.length = 0;
        return answer;
    }

    public int state() {
        return machine.state;
    }

    public int out() {
        return machine.out.length;
    }

    public int outAt(int i) throws NoSuchElementException {
        int found = machine.out.at(i);
        if (found < 0) {
            throw new NoSuchElementException();
        }
        return found;
    }

    public int told() {
        return machine.told.length;
    }

    public int toldAt(int i) throws NoSuchElementException {
        int found = machine.told.at(i);
        if (found < 0) {
            throw new NoSuchElementException();
        }
        return found;
    }

    public int fuel() {
        return machine.fuelUsed;
    }

    public int made() {
        return machine.made;
    }

    public int bindings() {
        return machine.global.count;
    }

    /** Anything that a name can mean. */
    interface Value {
    }

    /** The values that have but one of their sort, and what is below the ground's names. */
    enum Ground implements Value {
        NIL("()", ATOM, 0, 0),
        TRUE("#t", ATOM, 0, 0),
        FALSE("#f", ATOM, 0, 0),
        INERT("#inert", ATOM, 0, 0),
        IGNORE("#ignore", ATOM, 0, 0),

        IF("$if", OPERATIVE, 3, 3),
        DEFINE("$define!", OPERATIVE, 2, 2),
        SET("$set!", OPERATIVE, 3, 3),
        VAU("$vau", OPERATIVE, 2, LIST_MOST),
        LAMBDA("$lambda", OPERATIVE, 1, LIST_MOST),
        SEQUENCE("$sequence", OPERATIVE, 0, LIST_MOST),
        LET("$let", OPERATIVE, 1, LIST_MOST),
        COND("$cond", OPERATIVE, 0, LIST_MOST),
        AND("$and?", OPERATIVE, 0, LIST_MOST),
        OR("$or?", OPERATIVE, 0, LIST_MOST),
        QUOTE("$quote", OPERATIVE, 1, 1),
        BINDS("$binds?", OPERATIVE, 1, LIST_MOST),
        CURRENT("$current", OPERATIVE, 0, 0),
        GUARD("$guard", OPERATIVE, 2, 2),
        LAZY("$lazy", OPERATIVE, 1, 1),

        WRAP("wrap", MAKERS, 1, 1),
        UNWRAP("unwrap", MAKERS, 1, 1),
        MAKE_ENVIRONMENT("make-environment", MAKERS, 0, LIST_MOST),
        MAKE_DYNAMIC("make-dynamic", MAKERS, 0, 0),
        MAKE_STATIC("make-static", MAKERS, 0, 0),
        MAKE_CAPSULE("make-capsule", MAKERS, 0, 0),
        MEMOIZE("memoize", MAKERS, 1, 1),
        TO_APPLICATIVE("continuation->applicative", MAKERS, 1, 1),
        EXTEND("extend-continuation", MAKERS, 2, 3),

        CONS("cons", LISTS, 2, 2),
        CAR("car", LISTS, 1, 1),
        CDR("cdr", LISTS, 1, 1),
        SET_CAR("set-car!", LISTS, 2, 2),
        SET_CDR("set-cdr!", LISTS, 2, 2),
        LIST("list", LISTS, 0, LIST_MOST),
        LENGTH("length", LISTS, 1, 1),
        APPEND("append", LISTS, 0, LIST_MOST),
        REVERSE("reverse", LISTS, 1, 1),
        LIST_TAIL("list-tail", LISTS, 2, 2),

        PLUS("+", SUMS, 0, LIST_MOST),
        TIMES("*", SUMS, 0, LIST_MOST),
        MINUS("-", SUMS, 1, LIST_MOST),
        OVER("/", SUMS, 1, LIST_MOST),
        GCD("gcd", SUMS, 0, LIST_MOST),
        LCM("lcm", SUMS, 0, LIST_MOST),

        DIV("div", WHOLES, 2, 2),
        MOD("mod", WHOLES, 2, 2),
        NUMERATOR("numerator", WHOLES, 1, 1),
        DENOMINATOR("denominator", WHOLES, 1, 1),
        ABS("abs", WHOLES, 1, 1),
        FLOOR("floor", WHOLES, 1, 1),
        CEILING("ceiling", WHOLES, 1, 1),
        TRUNCATE("truncate", WHOLES, 1, 1),
        ROUND("round", WHOLES, 1, 1),
        EXPT("expt", WHOLES, 2, 2),

        MIN("min", ORDER, 1, LIST_MOST),
        MAX("max", ORDER, 1, LIST_MOST),
        LESS("<?", ORDER, 1, LIST_MOST),
        LESS_OR_SAME("<=?", ORDER, 1, LIST_MOST),
        MORE(">?", ORDER, 1, LIST_MOST),
        MORE_OR_SAME(">=?", ORDER, 1, LIST_MOST),
        SAME("=?", ORDER, 1, LIST_MOST),

        IS_ZERO("zero?", TESTS, 1, 1),
        IS_POSITIVE("positive?", TESTS, 1, 1),
        IS_NEGATIVE("negative?", TESTS, 1, 1),
        IS_EVEN("even?", TESTS, 1, 1),
        IS_ODD("odd?", TESTS, 1, 1),
        NOT("not?", TESTS, 1, 1),
        IS_EQ("eq?", TESTS, 2, 2),
        IS_EQUAL("equal?", TESTS, 2, 2),

        IS_NULL("null?", KINDS, 1, 1),
        IS_PAIR("pair?", KINDS, 1, 1),
        IS_NUMBER("number?", KINDS, 1, 1),
        IS_INTEGER("integer?", KINDS, 1, 1),
        IS_BOOLEAN("boolean?", KINDS, 1, 1),
        IS_SYMBOL("symbol?", KINDS, 1, 1),
        IS_STRING("string?", KINDS, 1, 1),
        IS_INERT("inert?", KINDS, 1, 1),
        IS_IGNORE("ignore?", KINDS, 1, 1),
        IS_ENVIRONMENT("environment?", KINDS, 1, 1),
        IS_COMBINER("combiner?", KINDS, 1, 1),
        IS_OPERATIVE("operative?", KINDS, 1, 1),
        IS_APPLICATIVE("applicative?", KINDS, 1, 1),
        IS_CONTINUATION("continuation?", KINDS, 1, 1),
        IS_PROMISE("promise?", KINDS, 1, 1),

        EVAL("eval", CONTROL, 2, 2),
        APPLY("apply", CONTROL, 2, 3),
        MAP("map", CONTROL, 2, LIST_MOST),
        CALL_CC("call/cc", CONTROL, 1, 1),
        THROW("throw", CONTROL, 2, 2),
        GUARD_EXTENT("guard-dynamic-extent", CONTROL, 3, 3),
        FORCE("force", CONTROL, 1, 1),

        STRING_APPEND("string-append", STRINGS, 0, LIST_MOST),
        STRING_LENGTH("string-length", STRINGS, 1, 1),
        SYMBOL_TO_STRING("symbol->string", STRINGS, 1, 1),
        STRING_TO_SYMBOL("string->symbol", STRINGS, 1, 1),
        NUMBER_TO_STRING("number->string", STRINGS, 1, 2),
        STRING_TO_NUMBER("string->number", STRINGS, 1, 1),

        WRITE("write", OUTPUT, 0, LIST_MOST),
        SHOW("show", OUTPUT, 0, LIST_MOST),
        NEWLINE("newline", OUTPUT, 0, 0),
        ERROR("error", OUTPUT, 0, LIST_MOST),

        PASS("continuation", INNER, 0, LIST_MOST),
        BIND_DYNAMIC("dynamic", INNER, 2, 2),
        GET_DYNAMIC("dynamic", INNER, 0, 0),
        BIND_STATIC("static", INNER, 2, 2),
        GET_STATIC("static", INNER, 0, 0),
        SEAL("capsule", INNER, 1, 1),
        IS_SEALED("capsule", INNER, 1, 1),
        UNSEAL("capsule", INNER, 1, 1);

        final String word;
        final int group;
        final int least;
        final int most;

        Ground(String word, int group, int least, int most) {
            this.word = word;
            this.group = group;
            this.least = least;
            this.most = most;
        }

        boolean isFunction() {
            return group >= MAKERS && group <= OUTPUT;
        }

        boolean isOperative() {
            return group >= OPERATIVE && group <= INNER;
        }
    }

    /** An exact number: an integer of 64 bits in small, or else (top is there then) rows of digits. */
    static final class Num implements Value {
        final long small;
        final boolean negative;
        final int[] top;
        final int[] bottom;

        Num(long small) {
            this.small = small;
            negative = small < 0;
            top = null;
            bottom = null;
        }

        Num(boolean negative, int[] top, int[] bottom) {
            small = 0;
            this.negative = negative;
            this.top = top;
            this.bottom = bottom;
        }

        boolean isInteger() {
            return bottom == null;
        }

        boolean isZero() {
            return top == null && small == 0;
        }

        boolean isOdd() {
            return ((top == null ? small : top.length > 1 ? top[1] : 0) & 1) != 0;
        }

        int cost() {
            if (top == null) {
                return 0;
            }
            int words = (Numbers.bits(top) + 63) / 64;
            return 1 + words + (bottom == null ? 0 : (Numbers.bits(bottom) + 63) / 64);
        }
    }

    /** A row of bytes: a string, a symbol with what it means in the two lasting environments, or a buffer. */
    static final class Text implements Value {
        final byte[] bytes;
        final boolean symbol;
        int length;
        Value ground;
        Value global;
        Text next;
        int mark;

        Text(byte[] bytes, int length, boolean symbol) {
            this.bytes = bytes;
            this.length = length;
            this.symbol = symbol;
        }

        int at(int i) {
            return i >= 0 && i < length && i < bytes.length ? bytes[i] & 255 : -1;
        }

        void put(int b) {
            if (length >= 0 && length < bytes.length) {
                bytes[length] = (byte) b;
                length++;
            }
        }

        void putFour(int word) {
            for (int shift = 24; shift >= 0; shift -= 8) {
                put(word >>> shift);
            }
        }

        void append(String s) {
            for (int i = 0; i < s.length() && length >= 0 && length < bytes.length; i++) {
                bytes[length] = (byte) s.charAt(i);
                length++;
            }
        }

        void add(Text other) {
            for (int i = 0; i < other.length; i++) {
                put(other.at(i));
            }
        }

        void cut(int most) {
            if (length > most) {
                length = most;
            }
        }

        boolean same(Text other, int from, int upto) {
            if (upto - from != length) {
                return false;
            }
            for (int i = 0; i < length; i++) {
                if (at(i) != other.at(from + i)) {
                    return false;
                }
            }
            return true;
        }

        byte[] copy(int from, int upto) {
            byte[] taken = new byte[Math.max(0, upto - from)];
            for (int i = 0; i < taken.length; i++) {
                taken[i] = (byte) at(from + i);
            }
            return taken;
        }
    }

    static final class Pair implements Value {
        Value car;
        Value cdr;
        boolean fixed;
        /** The latest going along that met this pair; tag tells how that one found it. */
        int seen;
        int tag;

        Pair(Value car, Value cdr) {
            this.car = car;
            this.cdr = cdr;
        }
    }

    static final class Env implements Value {
        final Env parent;
        /** The parents behind the first one, or null. */
        final Env[] others;
        final int place;
        /** Keys (symbols, or what a static binding has instead) and values in turn. */
        Value[] row;
        int count;
        int seen;

        Env(Env parent, Env[] others, int place) {
            this.parent = parent;
            this.others = others;
            this.place = place;
        }

        Value own(Value key) {
            if (place != OWN_ROW) {
                return key instanceof Text s ? place == OF_GROUND ? s.ground : s.global : null;
            }
            if (row != null) {
                for (int i = 0; i < 2 * count && i + 1 < row.length; i += 2) {
                    if (row[i] == key) {
                        return row[i + 1];
                    }
                }
            }
            return null;
        }

        /** Gives a key another value, if it has one here; whether it has. */
        boolean rebind(Value key, Value value) {
            boolean has = false;
            if (key instanceof Text s && place == OF_GROUND) {
                has = s.ground != null;
                s.ground = has ? value : null;
            } else if (key instanceof Text s && place == OF_GLOBAL) {
                has = s.global != null;
                s.global = has ? value : null;
            } else if (row != null) {
                for (int i = 0; !has && i < 2 * count && i + 1 < row.length; i += 2) {
                    if (row[i] == key) {
                        row[i + 1] = value;
                        has = true;
                    }
                }
            }
            return has;
        }

        /** A key that has no value here gets one; in the two lasting environments any key does. */
        void bind(Value key, Value value) {
            if (key instanceof Text s && place == OF_GROUND) {
                s.ground = value;
            } else if (key instanceof Text s && place == OF_GLOBAL) {
                count += s.global == null ? 1 : 0;
                s.global = value;
            } else if (place == OWN_ROW) {
                int at = 2 * count;
                if (row == null || at + 1 >= row.length) {
                    Value[] wider = new Value[Math.max(4, 2 * at)];
                    for (int i = 0; i < at && row != null && i < row.length; i++) {
                        wider[i] = row[i];
                    }
                    row = wider;
                }
                if (at + 1 < row.length) {
                    row[at] = key;
                    row[at + 1] = value;
                    count++;
                }
            }
        }
    }

    /** What is made and is the same only as itself: combiners, continuations, capsules, promises. */
    static final class Thing implements Value {
        final int kind;
        /** An applicative's combiner, a compound operative's body, a capsule's value, a promise's x or value. */
        Value below;
        Value tree;
        Value symbol;
        Ground inner;
        /** A promise has it as long as it has no value. */
        Env env;
        /** What tells dynamics, statics and capsules apart; of a promise the one that it goes by. */
        Thing key;
        Frame frame;

        Thing(int kind, Value below) {
            this.kind = kind;
            this.below = below;
        }
    }

    /** One thing to do with a value that is worked out. A continuation is the topmost frame of a chain. */
    static final class Frame {
        final int kind;
        final Frame under;
        /** The nearest guard below this frame. */
        final Frame guard;
        final int depth;
        final Env env;
        final Value a;
        final Value b;
        final Value c;
        final int count;

        Frame(int kind, Frame under, Env env, Value a, Value b, Value c, int count) {
            this.kind = kind;
            this.under = under;
            this.env = env;
            this.a = a;
            this.b = b;
            this.c = c;
            this.count = count;
            depth = under == null ? 0 : under.depth + 1;
            guard = under == null ? null : under.kind == AT_GUARD ? under : under.guard;
        }
    }

    /**
     * Exact arithmetic in rows that are made once. A row holds its length ahead of its digits, the lowest
     * first, 30 bits each, so that a product of two with a carry fits a long. The number at hand is
     * tinyValue while tiny, else N / D with its sign.
     */
    static final class Numbers {
        private static final int DIGIT_BITS = 30;
        private static final long BASE = 1L << DIGIT_BITS;
        private static final long MASK = BASE - 1;
        private static final int SIZE_MOST = 2048;
        /** Two factors of 2048 bits, a carry, the length, and some to spare. */
        private static final int ROW_ROOM = 150;
        private static final int SPELLED_ROOM = 4200;

        private static final int N = 0;
        private static final int D = 1;
        private static final int YN = 2;
        private static final int YD = 3;
        private static final int G = 4;
        private static final int P = 5;
        private static final int Q = 6;
        private static final int S = 7;
        private static final int T = 8;
        private static final int U1 = 9;
        private static final int U2 = 10;
        private static final int U3 = 11;
        private static final int U4 = 12;
        private static final int SHIFTED = 13;
        private static final int SPARE = 14;
        private static final int ROWS = 15;

        static final int NO_NUMBER = 0;
        static final int A_NUMBER = 1;
        static final int WRONG_NUMBER = 2;

        private final int[][] row = new int[ROWS][ROW_ROOM];
        /** What the rounds of Euclid come to, as u' = A u + B v and v' = C u + D v. */
        private final long[] turn = new long[4];
        private boolean tiny = true;
        private long tinyValue;
        private boolean negative;
        private boolean yNegative;
        final Text spelled = new Text(new byte[SPELLED_ROOM], 0, false);

        // ---- rows of digits: each has room for its length at least; what is deepest calls nothing

        static int size(int[] a) {
            return a.length == 0 ? 0 : Math.max(0, Math.min(a[0], a.length - 1));
        }

        static int bits(int[] a) {
            int n = a.length == 0 ? 0 : Math.min(a[0], a.length - 1);
            int above = 0;
            if (n > 0) {
                for (int rest = a[n]; rest > 0; rest >>= 1) {
                    above++;
                }
            }
            return n <= 0 ? 0 : (n - 1) * DIGIT_BITS + above;
        }

        private static boolean isOne(int[] a) {
            return a.length > 1 && a[0] == 1 && a[1] == 1;
        }

        /** The long is taken as one of 64 bits without a sign. */
        private static void setLong(int[] a, long m) {
            if (a.length > 3) {
                a[1] = (int) (m & MASK);
                a[2] = (int) (m >>> DIGIT_BITS & MASK);
                a[3] = (int) (m >>> 2 * DIGIT_BITS);
                a[0] = a[3] != 0 ? 3 : a[2] != 0 ? 2 : a[1] != 0 ? 1 : 0;
            }
        }

        private static void copy(int[] to, int[] from) {
            if (to.length > 0 && from.length > 0) {
                int n = Math.max(0, Math.min(from[0], Math.min(from.length, to.length) - 1));
                for (int i = 1; i <= n; i++) {
                    to[i] = from[i];
                }
                to[0] = n;
            }
        }

        private static int compareRows(int[] a, int[] b) {
            int n = size(a);
            if (n != size(b)) {
                return n < size(b) ? -1 : 1;
            }
            for (int i = n; i > 0; i--) {
                if (a[i] != b[i]) {
                    return a[i] < b[i] ? -1 : 1;
                }
            }
            return 0;
        }

        /** to = a + b, or a - b (a being no smaller then); to may be a or b. */
        private static void addRow(int[] to, int[] a, int[] b, boolean minus) {
            int na = size(a);
            int nb = size(b);
            int n = Math.min(Math.max(na, nb) + 1, to.length - 1);
            long carry = 0;
            for (int i = 1; i <= n; i++) {
                long x = i <= na ? a[i] : 0;
                long y = i <= nb ? b[i] : 0;
                carry += minus ? x - y : x + y;
                to[i] = (int) (carry & MASK);
                carry >>= DIGIT_BITS;
            }
            trim(to, n);
        }

        /** A row's highest digit is not 0, so that lengths tell which row is greater. */
        private static void trim(int[] a, int most) {
            int n = Math.max(0, Math.min(most, a.length - 1));
            while (n > 0 && a[n] == 0) {
                n--;
            }
            if (a.length > 0) {
                a[0] = n;
            }
        }

        /** to = a * b; to is neither. */
        private static void multiplyRows(int[] to, int[] a, int[] b) {
            int na = size(a);
            int nb = size(b);
            int n = Math.min(na + nb, to.length - 1);
            for (int i = 1; i <= n; i++) {
                to[i] = 0;
            }
            for (int i = 1; i <= na; i++) {
                long carry = 0;
                for (int j = 1; j <= nb && i + j - 1 <= n; j++) {
                    carry += (long) a[i] * b[j] + to[i + j - 1];
                    to[i + j - 1] = (int) (carry & MASK);
                    carry >>>= DIGIT_BITS;
                }
                if (i + nb <= n) {
                    to[i + nb] = (int) carry;
                }
            }
            trim(to, n);
        }

        private static int divideByDigit(int[] a, int digit) {
            long rest = 0;
            if (digit > 0 && a.length > 0) {
                int n = Math.min(a[0], a.length - 1);
                for (int i = n; i > 0; i--) {
                    rest = rest << DIGIT_BITS | a[i];
                    a[i] = (int) (rest / digit);
                    rest %= digit;
                }
                while (n > 0 && a[n] == 0) {
                    n--;
                }
                a[0] = n;
            }
            return (int) rest;
        }

        /** q = a / b and r = a mod b; q, r are neither a nor b. */
        private void divideRows(int[] q, int[] r, int[] a, int[] b) {
            int n = size(b);
            int m = size(a) - n;
            if (n < 2 || m < 0) {
                copy(m < 0 ? r : q, a);
                setLong(m < 0 ? q : r, m < 0 || n == 0 ? 0 : divideByDigit(q, b[1]));
                return;
            }
            int[] w = row[SHIFTED];
            int shift = n * DIGIT_BITS - bits(b);
            shiftUp(w, b, shift);
            shiftUp(r, a, shift);
            for (int j = m; j >= 0; j--) {
                if (j + n + 1 < r.length && n < w.length && j + 1 < q.length) {
                    long guess = guessDigit(r, w, j, n);
                    q[j + 1] = (int) subtractMultiple(r, w, j, n, guess);
                }
            }
            trim(q, m + 1);
            shiftDown(r, n, shift);
        }

        /** Knuth's guess at a digit of the quotient: right, or one too great. */
        private static long guessDigit(int[] r, int[] w, int j, int n) {
            long above = w[n] > 0 ? w[n] : 1;
            long two = (long) r[j + n + 1] << DIGIT_BITS | r[j + n];
            long guess = two / above;
            long rest = two % above;
            for (int i = 0; i < 3 && rest < BASE; i++) {
                if (guess < BASE && guess * w[n - 1] <= (rest << DIGIT_BITS | r[j + n - 1])) {
                    break;
                }
                guess--;
                rest += above;
            }
            return guess;
        }

        private static long subtractMultiple(int[] r, int[] w, int j, int n, long guess) {
            long borrow = 0;
            for (int i = 1; i <= n; i++) {
                long product = guess * w[i] + borrow;
                long left = r[j + i] - (product & MASK);
                r[j + i] = (int) (left & MASK);
                borrow = (product >>> DIGIT_BITS) + (left < 0 ? 1 : 0);
            }
            long left = r[j + n + 1] - borrow;
            r[j + n + 1] = (int) (left & MASK);
            if (left >= 0) {
                return guess;
            }
            long carry = 0;
            for (int i = 1; i <= n; i++) {
                carry += (long) r[j + i] + w[i];
                r[j + i] = (int) (carry & MASK);
                carry >>>= DIGIT_BITS;
            }
            r[j + n + 1] = (int) (r[j + n + 1] + carry & MASK);
            return guess - 1;
        }

        /** to gets one digit more than from, a 0 perhaps, which the division wants. */
        private static void shiftUp(int[] to, int[] from, int shift) {
            int n = from.length == 0 ? 0 : Math.min(from[0], Math.min(from.length - 1, to.length - 2));
            long carry = 0;
            for (int i = 1; i <= n; i++) {
                carry |= (long) from[i] << shift;
                to[i] = (int) (carry & MASK);
                carry >>>= DIGIT_BITS;
            }
            if (n >= 0 && n + 1 < to.length) {
                to[n + 1] = (int) carry;
                to[0] = n + 1;
            }
        }

        private static void shiftDown(int[] a, int most, int shift) {
            int n = Math.min(most, a.length - 1);
            long above = 0;
            for (int i = n; i > 0; i--) {
                long both = above << DIGIT_BITS | a[i];
                above = a[i] & (1L << shift) - 1;
                a[i] = (int) (both >>> shift & MASK);
            }
            while (n > 0 && a[n] == 0) {
                n--;
            }
            if (n >= 0) {
                a[0] = n;
            }
        }

        // ---- the greatest common divisor, by Lehmer's way

        private void gcdRows(int[] to, int[] a, int[] b) {
            int[] u = row[U1];
            int[] v = row[U2];
            int[] x = row[U3];
            int[] y = row[U4];
            boolean turned = compareRows(a, b) < 0;
            copy(u, turned ? b : a);
            copy(v, turned ? a : b);
            for (int i = 0; i < WALK_MOST && size(u) > 2 && size(v) > 0; i++) {
                boolean far = rounds(u, v);
                if (far) {
                    combineRows(x, u, v, turn[0], turn[1]);
                    combineRows(y, u, v, turn[2], turn[3]);
                } else {
                    copy(x, v);
                    divideRows(row[SPARE], y, u, v);
                }
                int[] oldU = u;
                int[] oldV = v;
                u = x;
                v = y;
                x = oldU;
                y = oldV;
            }
            if (size(v) == 0) {
                copy(to, u);
            } else {
                setLong(to, gcdLong(low(u), low(v)));
            }
        }

        private static long low(int[] a) {
            int n = size(a);
            return n == 0 ? 0 : n == 1 ? a[1] : (long) a[2] << DIGIT_BITS | a[1];
        }

        private static long gcdLong(long a, long b) {
            long x = a;
            long y = b;
            for (int i = 0; i < 200 && y != 0; i++) {
                long rest = x % y;
                x = y;
                y = rest;
            }
            return x;
        }

        /** The bits of a from the shift on, 60 at most. */
        private static long above(int[] a, int shift) {
            int n = a.length == 0 ? 0 : Math.min(a[0], a.length - 1);
            int skip = shift / DIGIT_BITS;
            int bit = shift % DIGIT_BITS;
            long sum = 0;
            for (int i = 3; i > 0; i--) {
                int at = skip + i;
                long digit = at > 0 && at <= n ? a[at] : 0;
                sum = i == 1 ? sum << DIGIT_BITS - bit | digit >>> bit : sum << DIGIT_BITS | digit;
            }
            return sum;
        }

        /** Rounds of Euclid on the highest bits, as far as they say for sure what all bits would. */
        private boolean rounds(int[] u, int[] v) {
            int shift = bits(u) - 2 * DIGIT_BITS;
            long x = above(u, shift);
            long y = above(v, shift);
            long a = 1;
            long b = 0;
            long c = 0;
            long d = 1;
            for (int i = 0; i < 100 && y + c > 0 && y + d > 0; i++) {
                long q = (x + a) / (y + c);
                if (q >= BASE || q != (x + b) / (y + d)) {
                    break;
                }
                long nextC = a - q * c;
                long nextD = b - q * d;
                if (nextC >= BASE || nextC <= -BASE || nextD >= BASE || nextD <= -BASE) {
                    break;
                }
                a = c;
                c = nextC;
                b = d;
                d = nextD;
                long rest = x - q * y;
                x = y;
                y = rest;
            }
            turn[0] = a;
            turn[1] = b;
            turn[2] = c;
            turn[3] = d;
            return b != 0;
        }

        /** to = u * a + v * b, which is not below 0. */
        private static void combineRows(int[] to, int[] u, int[] v, long a, long b) {
            int nu = size(u);
            int nv = size(v);
            int n = Math.min(Math.max(nu, nv) + 1, to.length - 1);
            long carry = 0;
            for (int i = 1; i <= n; i++) {
                carry += (i <= nu ? a * u[i] : 0) + (i <= nv ? b * v[i] : 0);
                to[i] = (int) (carry & MASK);
                carry >>= DIGIT_BITS;
            }
            trim(to, n);
        }

        // ---- the number at hand

        void begin(long value) {
            tiny = true;
            tinyValue = value;
        }

        void take(Num x) {
            if (x.top == null) {
                begin(x.small);
                return;
            }
            tiny = false;
            negative = x.negative;
            copy(row[N], x.top);
            if (x.bottom == null) {
                setLong(row[D], 1);
            } else {
                copy(row[D], x.bottom);
            }
        }

        private void load(Num y) {
            yNegative = y.negative;
            if (y.top == null) {
                setLong(row[YN], y.small < 0 ? -y.small : y.small);
            } else {
                copy(row[YN], y.top);
            }
            if (y.bottom == null) {
                setLong(row[YD], 1);
            } else {
                copy(row[YD], y.bottom);
            }
        }

        private void spread() {
            if (tiny) {
                tiny = false;
                negative = tinyValue < 0;
                setLong(row[N], negative ? -tinyValue : tinyValue);
                setLong(row[D], 1);
            }
        }

        Num give() {
            if (tiny) {
                return new Num(tinyValue);
            }
            int[] n = row[N];
            int[] d = row[D];
            boolean whole = isOne(d);
            int wide = bits(n);
            if (whole && wide <= 64) {
                long value = low(n) | (size(n) > 2 ? (long) n[3] << 2 * DIGIT_BITS : 0);
                if (wide < 64 || negative && value == Long.MIN_VALUE) {
                    return new Num(negative ? -value : value);
                }
            }
            return new Num(negative, exact(n), whole ? null : exact(d));
        }

        private static int[] exact(int[] a) {
            int[] kept = new int[size(a) + 1];
            copy(kept, a);
            return kept;
        }

        private boolean fits() {
            return bits(row[N]) <= SIZE_MOST && bits(row[D]) <= SIZE_MOST;
        }

        /** N with its sign, and a row with one: their sum. */
        private void addSigned(int[] y, boolean yBelow) {
            int[] n = row[N];
            if (negative == yBelow) {
                addRow(n, n, y, false);
            } else if (compareRows(n, y) >= 0) {
                addRow(n, n, y, true);
            } else {
                addRow(n, y, n, true);
                negative = yBelow;
            }
        }

        boolean add(Num y, boolean minus) {
            if (tiny && y.top == null) {
                long sum = minus ? tinyValue - y.small : tinyValue + y.small;
                long other = minus ? ~y.small : y.small;
                if (((tinyValue ^ sum) & (other ^ sum)) >= 0) {
                    tinyValue = sum;
                    return true;
                }
            }
            spread();
            load(y);
            boolean below = yNegative != minus;
            if (isOne(row[D]) && isOne(row[YD])) {
                addSigned(row[YN], below);
            } else {
                addFraction(below);
            }
            return fits();
        }

        /** By the common divisor of both D first, so that no row grows beyond two factors. */
        private void addFraction(boolean below) {
            int[] n = row[N];
            int[] d = row[D];
            int[] g = row[G];
            gcdRows(g, d, row[YD]);
            divideRows(row[S], row[SPARE], row[YD], g);
            divideRows(row[T], row[SPARE], d, g);
            multiplyRows(row[P], n, row[S]);
            multiplyRows(row[Q], row[YN], row[T]);
            copy(n, row[P]);
            addSigned(row[Q], below);
            if (size(n) == 0) {
                setLong(d, 1);
                return;
            }
            gcdRows(row[S], n, g);
            divideRows(row[Q], row[SPARE], n, row[S]);
            copy(n, row[Q]);
            divideRows(row[Q], row[SPARE], row[YD], row[S]);
            multiplyRows(row[P], row[T], row[Q]);
            copy(d, row[P]);
        }

        boolean multiply(Num y, boolean over) {
            if (tiny && y.top == null && !over && isHalf(tinyValue) && isHalf(y.small)) {
                tinyValue *= y.small;
                return true;
            }
            spread();
            load(y);
            if (over) {
                copy(row[P], row[YN]);
                copy(row[YN], row[YD]);
                copy(row[YD], row[P]);
            }
            negative = negative != yNegative;
            if (size(row[N]) == 0 || size(row[YN]) == 0) {
                begin(0);
                return true;
            }
            reduce(row[N], row[YD]);
            reduce(row[YN], row[D]);
            multiplyRows(row[P], row[N], row[YN]);
            copy(row[N], row[P]);
            multiplyRows(row[P], row[D], row[YD]);
            copy(row[D], row[P]);
            return fits();
        }

        private static boolean isHalf(long value) {
            return value < 1L << 31 && value > -(1L << 31);
        }

        private void reduce(int[] a, int[] b) {
            if (isOne(a) || isOne(b)) {
                return;
            }
            gcdRows(row[G], a, b);
            if (isOne(row[G])) {
                return;
            }
            divideRows(row[S], row[SPARE], a, row[G]);
            copy(a, row[S]);
            divideRows(row[S], row[SPARE], b, row[G]);
            copy(b, row[S]);
        }

        /** N / D as it was spelled, in least terms. */
        void lowest() {
            if (!tiny && !isOne(row[D])) {
                gcdRows(row[G], row[N], row[D]);
                divideRows(row[S], row[SPARE], row[N], row[G]);
                copy(row[N], row[S]);
                divideRows(row[S], row[SPARE], row[D], row[G]);
                copy(row[D], row[S]);
            }
        }

        void gcdWith(Num y) {
            spread();
            load(y);
            gcdRows(row[P], row[N], row[YN]);
            copy(row[N], row[P]);
            negative = false;
        }

        boolean lcmWith(Num y) {
            spread();
            load(y);
            negative = false;
            if (size(row[N]) == 0 || size(row[YN]) == 0) {
                begin(0);
                return true;
            }
            gcdRows(row[G], row[N], row[YN]);
            divideRows(row[S], row[SPARE], row[N], row[G]);
            multiplyRows(row[P], row[S], row[YN]);
            copy(row[N], row[P]);
            return fits();
        }

        /** x divided by y, which is not 0, downwards: the quotient, or what is left. */
        boolean divide(Num x, Num y, boolean rest) {
            take(x);
            spread();
            load(y);
            divideRows(row[Q], row[P], row[N], row[YN]);
            boolean even = size(row[P]) == 0;
            boolean down = !even && negative != yNegative;
            setLong(row[T], 1);
            if (rest) {
                copy(row[N], row[P]);
                if (down) {
                    addRow(row[N], row[YN], row[P], true);
                }
                negative = yNegative;
            } else {
                copy(row[N], row[Q]);
                if (down) {
                    addRow(row[N], row[N], row[T], false);
                }
                negative = negative != yNegative;
            }
            return fits();
        }

        /** The integer beside x that FLOOR, CEILING, TRUNCATE or ROUND names. */
        boolean toInteger(Num x, Ground way) {
            take(x);
            if (x.isInteger()) {
                return true;
            }
            divideRows(row[Q], row[P], row[N], row[D]);
            boolean up = way == Ground.FLOOR ? negative : way == Ground.CEILING && !negative;
            if (way == Ground.ROUND) {
                addRow(row[P], row[P], row[P], false);
                int half = compareRows(row[P], row[D]);
                boolean odd = size(row[Q]) > 0 && (row[Q][1] & 1) != 0;
                up = half > 0 || half == 0 && odd;
            }
            copy(row[N], row[Q]);
            setLong(row[D], 1);
            if (up) {
                addRow(row[N], row[N], row[D], false);
            }
            return fits();
        }

        void part(Num x, boolean bottom) {
            take(x);
            if (x.isInteger()) {
                if (bottom) {
                    begin(1);
                }
                return;
            }
            if (bottom) {
                copy(row[N], row[D]);
                negative = false;
            }
            setLong(row[D], 1);
        }

        void absolute(Num x) {
            take(x);
            spread();
            negative = false;
        }

        /** Each square and each product is looked at, for no row has room for both. */
        boolean power(Num x, int n) {
            begin(1);
            spread();
            load(x);
            for (int bit = 14; bit >= 0; bit--) {
                multiplyRows(row[P], row[N], row[N]);
                copy(row[N], row[P]);
                multiplyRows(row[P], row[D], row[D]);
                copy(row[D], row[P]);
                if (!fits()) {
                    return false;
                }
                if ((n >> bit & 1) != 0) {
                    multiplyRows(row[P], row[N], row[YN]);
                    copy(row[N], row[P]);
                    multiplyRows(row[P], row[D], row[YD]);
                    copy(row[D], row[P]);
                }
                if (!fits()) {
                    return false;
                }
            }
            negative = yNegative && (n & 1) != 0;
            return true;
        }

        int compare(Num x, Num y) {
            if (x.top == null && y.top == null) {
                return Long.compare(x.small, y.small);
            }
            if (x.negative != y.negative) {
                return x.negative ? -1 : 1;
            }
            take(x);
            spread();
            load(y);
            multiplyRows(row[P], row[N], row[YD]);
            multiplyRows(row[Q], row[YN], row[D]);
            return x.negative ? compareRows(row[Q], row[P]) : compareRows(row[P], row[Q]);
        }

        // ---- numbers as words

        /** Into spelled. */
        void spell(Num x, int radix) {
            take(x);
            spread();
            spelled.length = 0;
            if (negative) {
                spelled.put('-');
            }
            spellRow(row[N], radix);
            if (!x.isInteger()) {
                spelled.put('/');
                spellRow(row[D], radix);
            }
        }

        private void spellRow(int[] a, int radix) {
            int places = 1;
            int chunk = Math.max(2, radix);
            for (int i = 0; i < DIGIT_BITS && (long) chunk * radix < BASE; i++) {
                chunk *= radix;
                places++;
            }
            int from = spelled.length;
            int[] rest = row[P];
            copy(rest, a);
            for (int i = 0; i < SPELLED_ROOM && (i == 0 || size(rest) > 0); i++) {
                int digits = divideByDigit(rest, chunk);
                boolean last = size(rest) == 0;
                for (int j = 0; j < places && (j == 0 || !last || digits > 0); j++) {
                    int digit = digits % Math.max(2, radix);
                    digits /= Math.max(2, radix);
                    spelled.put(digit < 10 ? '0' + digit : 'a' + digit - 10);
                }
            }
            for (int i = from, j = spelled.length - 1; i >= 0 && i < j && j < spelled.bytes.length; i++, j--) {
                byte b = spelled.bytes[i];
                spelled.bytes[i] = spelled.bytes[j];
                spelled.bytes[j] = b;
            }
        }

        /** Takes a word as the number at hand (lowest is still due). */
        int parse(Text t, int from, int upto) {
            int start = t.at(from) == '-' ? from + 1 : from;
            int slash = pastDigits(t, start, upto);
            int last = slash < upto && t.at(slash) == '/' ? pastDigits(t, slash + 1, upto) : slash;
            if (slash == start || last != upto || last == slash + 1) {
                return NO_NUMBER;
            }
            begin(0);
            spread();
            negative = start > from;
            if (!parseRow(row[N], t, start, slash)) {
                return WRONG_NUMBER;
            }
            if (slash < upto && !parseRow(row[D], t, slash + 1, upto)) {
                return WRONG_NUMBER;
            }
            return size(row[D]) == 0 ? WRONG_NUMBER : A_NUMBER;
        }

        private static int pastDigits(Text t, int from, int upto) {
            int i = from;
            while (i < upto && t.at(i) >= '0' && t.at(i) <= '9') {
                i++;
            }
            return i;
        }

        private static boolean parseRow(int[] a, Text t, int from, int upto) {
            setLong(a, 0);
            for (int i = from; i < upto; i++) {
                long carry = t.at(i) - '0';
                int n = Math.min(size(a) + 1, a.length - 1);
                a[n] = 0;
                for (int j = 1; j <= n; j++) {
                    carry += 10L * a[j];
                    a[j] = (int) (carry & MASK);
                    carry >>>= DIGIT_BITS;
                }
                trim(a, n);
                if (bits(a) > SIZE_MOST) {
                    return false;
                }
            }
            return true;
        }
    }

    /** Reads texts into data, and writes values as texts. */
    static final class Notation {
        private static final int BUCKETS = 1024;
        private static final int DATA_ROOM = 4100;
        private static final int GROUPS_ROOM = TEXT_MOST + 10;

        private static final int NOTHING = 0;
        private static final int FAULTY = 1;
        private static final int OPEN = 2;
        private static final int CLOSE = 3;
        private static final int STRING = 4;
        private static final int DOT = 5;
        private static final int NUMBER = 6;
        private static final int LABEL = 7;
        private static final int REFERENCE = 8;
        private static final int SYMBOL = 9;
        private static final int CONSTANT = 10;

        // How far an open list is.
        private static final int AT_ITEMS = 0;
        private static final int AT_TAIL = 1;
        private static final int AT_CLOSE = 2;

        // A pair's tag, with its label plus one behind these bits.
        private static final int ALONG_CAR = 1;
        private static final int ALONG_CDR = 2;
        private static final int GONE_ALONG = 4;
        private static final int MARKED = 8;
        private static final int BEING_WRITTEN = 16;
        private static final int LABEL_SHIFT = 5;

        private final Numbers numbers;
        private final Text[] symbols = new Text[BUCKETS];
        private Text tape;
        private int place;
        private int from;
        private int fault;
        /** The label that waits for its list, or NONE. */
        private int awaiting;
        private final int[] labels = new int[LABELS_ROOM];
        private final Pair[] labelled = new Pair[LABELS_ROOM];
        private int labelCount;
        /** The lists that are open while a text is read, or written. */
        private final Pair[] heads = new Pair[GROUPS_ROOM];
        private final Pair[] tails = new Pair[GROUPS_ROOM];
        private final int[] stages = new int[NESTING_MOST];
        private int depth;
        final Value[] data = new Value[DATA_ROOM];
        int dataCount;
        final Text text = new Text(new byte[TEXT_MOST + 10], 0, false);
        private Pair[] path = new Pair[256];
        private int stamp;
        /** No pair was marked since the stamp was made, nor changed: what bears it needn't be gone along again. */
        boolean clean;

        Notation(Numbers numbers) {
            this.numbers = numbers;
        }

        // ---- reading

        /** The place of the fault, or NONE, also when the machine ended the reading. */
        int read(Machine machine, Text source) {
            tape = source;
            place = 0;
            dataCount = 0;
            depth = 0;
            awaiting = NONE;
            labelCount = 0;
            for (int i = 0; i <= source.length; i++) {
                int sort = token();
                if (sort == FAULTY) {
                    // What is wrong within a string says nothing where no string can stand.
                    return hasRoom(sort) ? fault : from;
                }
                if (sort == NOTHING) {
                    return depth > 0 || awaiting != NONE ? source.length : NONE;
                }
                if (!stands(sort, machine)) {
                    return machine.state == FINE ? from : NONE;
                }
            }
            return NONE;
        }

        /** Finds the next token: from its place to (not with) place. */
        private int token() {
            skipBlanks();
            from = place;
            fault = place;
            int c = tape.at(place);
            if (c < 0) {
                return NOTHING;
            }
            place++;
            if (c == '(') {
                return OPEN;
            }
            if (c == ')') {
                return CLOSE;
            }
            if (c == '"') {
                return string();
            }
            if (!inWord(c)) {
                return FAULTY;
            }
            while (place < tape.length && inWord(tape.at(place))) {
                place++;
            }
            return word(tape, from, place);
        }

        private void skipBlanks() {
            boolean remark = false;
            while (place < tape.length) {
                int c = tape.at(place);
                if (c == 10) {
                    remark = false;
                } else if (c == ';') {
                    remark = true;
                } else if (!remark && c != 9 && c != 13 && c != 32) {
                    return;
                }
                place++;
            }
        }

        static boolean inWord(int c) {
            return c >= 33 && c <= 126 && c != '(' && c != ')' && c != '"' && c != ';';
        }

        private int string() {
            while (place < tape.length) {
                int c = tape.at(place);
                if (c == '"') {
                    place++;
                    return STRING;
                }
                if (c == '\\' && place + 1 < tape.length) {
                    int next = tape.at(place + 1);
                    if (next != '"' && next != '\\' && next != 'n') {
                        fault = place;
                        return FAULTY;
                    }
                    place++;
                }
                place++;
            }
            return FAULTY;
        }

        /** What sort of token the word is; a number's is in the numbers' hand then. */
        private int word(Text t, int start, int upto) {
            if (t.at(start) == '#') {
                if (constant(t, start, upto) != null) {
                    return CONSTANT;
                }
                if (labelNumber(t, start, upto) == NONE) {
                    return FAULTY;
                }
                return t.at(upto - 1) == '=' ? LABEL : REFERENCE;
            }
            if (upto - start == 1 && t.at(start) == '.') {
                return DOT;
            }
            int number = numbers.parse(t, start, upto);
            return number == Numbers.A_NUMBER ? NUMBER : number == Numbers.NO_NUMBER ? SYMBOL : FAULTY;
        }

        boolean isSymbol(Text t) {
            if (t.length < 1 || t.length > NAME_MOST) {
                return false;
            }
            for (int i = 0; i < t.length; i++) {
                if (!inWord(t.at(i))) {
                    return false;
                }
            }
            return word(t, 0, t.length) == SYMBOL;
        }

        private static Ground constant(Text t, int start, int upto) {
            for (int i = 0; i < GROUNDS.length && GROUNDS[i].group == ATOM; i++) {
                String word = GROUNDS[i].word;
                boolean same = word.length() == upto - start;
                for (int j = 0; same && j < word.length(); j++) {
                    same = word.charAt(j) == t.at(start + j);
                }
                if (same) {
                    return GROUNDS[i];
                }
            }
            return null;
        }

        private static int labelNumber(Text t, int start, int upto) {
            int last = t.at(upto - 1);
            int digits = upto - start - 2;
            if (digits < 1 || digits > 4 || last != '=' && last != '#') {
                return NONE;
            }
            int number = 0;
            for (int i = start + 1; i < upto - 1; i++) {
                int digit = t.at(i) - '0';
                if (digit < 0 || digit > 9) {
                    return NONE;
                }
                number = number * 10 + digit;
            }
            return number;
        }

        private int stage() {
            return depth > 0 && depth <= NESTING_MOST ? stages[depth - 1] : AT_ITEMS;
        }

        /** False behind a label, where only ( can stand, or behind a dot's datum, where only ) can. */
        private boolean hasRoom(int sort) {
            return awaiting != NONE ? sort == OPEN : stage() != AT_CLOSE || sort == CLOSE;
        }

        /** Puts the token where it belongs; false when it can't stand there, or the machine ended. */
        private boolean stands(int sort, Machine machine) {
            if (!hasRoom(sort)) {
                return false;
            }
            switch (sort) {
                case OPEN:
                    return opens();
                case CLOSE:
                    return closes(machine);
                case DOT:
                    if (depth == 0 || depth > NESTING_MOST || stage() != AT_ITEMS || tails[depth - 1] == null) {
                        return false;
                    }
                    stages[depth - 1] = AT_TAIL;
                    return true;
                case LABEL:
                    awaiting = labelNumber(tape, from, place);
                    return labelCount < LABELS_ROOM && referred(awaiting) == null;
                case REFERENCE:
                    Pair meant = referred(labelNumber(tape, from, place));
                    return meant != null && put(meant);
                default:
                    Value datum = atom(sort, machine);
                    return datum != null && put(datum);
            }
        }

        /** The list that has the label, or null. */
        private Pair referred(int label) {
            for (int i = 0; i < labelCount && i < LABELS_ROOM; i++) {
                if (labels[i] == label) {
                    return labelled[i];
                }
            }
            return null;
        }

        private boolean opens() {
            if (depth < 0 || depth >= NESTING_MOST) {
                return false;
            }
            heads[depth] = null;
            tails[depth] = null;
            stages[depth] = AT_ITEMS;
            if (awaiting != NONE && labelCount >= 0 && labelCount < LABELS_ROOM) {
                // What refers to the list from within needs its first pair now.
                heads[depth] = fixedPair(Ground.NIL);
                labels[labelCount] = awaiting;
                labelled[labelCount] = heads[depth];
                labelCount++;
            }
            awaiting = NONE;
            depth++;
            return true;
        }

        private boolean closes(Machine machine) {
            if (depth <= 0 || depth > NESTING_MOST || stage() == AT_TAIL) {
                return false;
            }
            Pair head = heads[depth - 1];
            Pair tail = tails[depth - 1];
            if (head != null && tail == null) {
                return false;
            }
            int count = head == null ? 0 : 1;
            Pair at = head;
            for (int i = 0; i < TAPE_ROOM && at != null && at != tail; i++) {
                at = at.cdr instanceof Pair next ? next : null;
                count++;
            }
            if (!machine.makePairs(count)) {
                return false;
            }
            depth--;
            return put(head == null ? Ground.NIL : head);
        }

        private static Pair fixedPair(Value car) {
            Pair made = new Pair(car, Ground.NIL);
            made.fixed = true;
            return made;
        }

        private boolean put(Value datum) {
            if (depth <= 0 || depth > NESTING_MOST) {
                if (dataCount < 0 || dataCount >= DATA_ROOM) {
                    return false;
                }
                data[dataCount] = datum;
                dataCount++;
                return true;
            }
            int at = depth - 1;
            Pair tail = tails[at];
            if (tail == null) {
                if (heads[at] == null) {
                    heads[at] = fixedPair(datum);
                }
                tails[at] = heads[at];
                tails[at].car = datum;
            } else if (stages[at] == AT_TAIL) {
                tail.cdr = datum;
                stages[at] = AT_CLOSE;
            } else {
                Pair next = fixedPair(datum);
                tail.cdr = next;
                tails[at] = next;
            }
            return true;
        }

        /** Null when the machine ended. */
        private Value atom(int sort, Machine machine) {
            if (sort == CONSTANT) {
                return constant(tape, from, place);
            }
            if (sort == SYMBOL) {
                return symbol(tape, from, place);
            }
            if (sort == NUMBER) {
                numbers.lowest();
                Num number = numbers.give();
                return machine.make(number.cost()) ? number : null;
            }
            int length = 0;
            for (int i = from + 1; i < place - 1; i++) {
                if (tape.at(i) == '\\') {
                    i++;
                }
                length++;
            }
            Text string = machine.newString(length);
            if (string != null) {
                for (int i = from + 1; i < place - 1; i++) {
                    boolean escape = tape.at(i) == '\\';
                    if (escape) {
                        i++;
                    }
                    string.put(escape && tape.at(i) == 'n' ? 10 : tape.at(i));
                }
            }
            return string;
        }

        /** The one symbol of the name. */
        Text symbol(Text t, int start, int upto) {
            int hash = 0;
            for (int i = start; i < upto; i++) {
                hash = hash * 31 + t.at(i);
            }
            int bucket = (hash ^ hash >>> 11) & BUCKETS - 1;
            Text found = symbols[bucket];
            for (int i = 0; i < WALK_MOST && found != null; i++) {
                if (found.same(t, start, upto)) {
                    return found;
                }
                found = found.next;
            }
            byte[] name = t.copy(start, upto);
            Text made = new Text(name, name.length, true);
            made.next = symbols[bucket];
            symbols[bucket] = made;
            return made;
        }

        // ---- writing

        /** The value's text, into text. */
        void write(Value value, boolean plain) {
            text.length = 0;
            mark(value);
            depth = 0;
            int given = 0;
            Value next = value;
            for (int i = 0; i < WALK_MOST && text.length <= TEXT_MOST; i++) {
                if (next instanceof Pair p) {
                    given += label(p, given);
                    next = opened(p);
                } else if (next != null) {
                    writeAtom(next, plain);
                    next = null;
                } else if (depth > 0 && depth <= GROUPS_ROOM) {
                    next = goOn();
                } else {
                    break;
                }
            }
            if (text.length > TEXT_MOST) {
                text.length = TEXT_MOST;
                text.append("...");
            }
        }

        /** Goes along the value, and marks the pairs that stand within themselves. */
        private void mark(Value value) {
            if (!clean) {
                stamp++;
                clean = true;
            }
            int steps = meet(value, 0);
            for (int i = 0; i < WALK_MOST && steps > 0 && steps <= path.length; i++) {
                Pair p = path[steps - 1];
                if (p == null) {
                    return;
                }
                if ((p.tag & ALONG_CAR) == 0) {
                    p.tag |= ALONG_CAR;
                    steps = meet(p.car, steps);
                } else if ((p.tag & ALONG_CDR) == 0) {
                    p.tag |= ALONG_CDR;
                    steps = meet(p.cdr, steps);
                } else {
                    p.tag |= GONE_ALONG;
                    steps--;
                }
            }
        }

        /** How long the path is behind the value. */
        private int meet(Value value, int steps) {
            if (!(value instanceof Pair p)) {
                return steps;
            }
            if (p.seen == stamp) {
                if ((p.tag & GONE_ALONG) == 0) {
                    p.tag |= MARKED;
                    clean = false;
                }
                return steps;
            }
            p.seen = stamp;
            p.tag = 0;
            if (steps >= path.length) {
                Pair[] wider = new Pair[2 * path.length];
                for (int i = 0; i < path.length; i++) {
                    wider[i] = path[i];
                }
                path = wider;
            }
            path[steps] = p;
            return steps + 1;
        }

        /** Writes what stands ahead of a marked pair, or in its place; how many new labels that took. */
        private int label(Pair p, int given) {
            if ((p.tag & MARKED) == 0) {
                return 0;
            }
            boolean fresh = p.tag >>> LABEL_SHIFT == 0;
            if (fresh) {
                p.tag |= given + 1 << LABEL_SHIFT;
            }
            text.put('#');
            int number = (p.tag >>> LABEL_SHIFT) - 1;
            for (int unit = 1000; unit > 0; unit /= 10) {
                if (number >= unit || unit == 1) {
                    text.put('0' + number / unit % 10);
                }
            }
            text.put((p.tag & BEING_WRITTEN) != 0 ? '#' : '=');
            return fresh ? 1 : 0;
        }

        /** Begins the pair's list, unless it stands within itself: its first value, or null. */
        private Value opened(Pair p) {
            if ((p.tag & BEING_WRITTEN) != 0 || depth < 0 || depth >= GROUPS_ROOM) {
                return null;
            }
            if ((p.tag & MARKED) != 0) {
                p.tag |= BEING_WRITTEN;
            }
            text.put('(');
            heads[depth] = p;
            tails[depth] = p;
            depth++;
            return p.car;
        }

        /** What comes next in the list that is being written, or null when it is closed. */
        private Value goOn() {
            Pair at = tails[depth - 1];
            Value rest = at == null ? Ground.NIL : at.cdr;
            if (rest instanceof Pair next && (next.tag & MARKED) == 0) {
                text.put(' ');
                tails[depth - 1] = next;
                return next.car;
            }
            if (rest != Ground.NIL) {
                text.append(" . ");
                tails[depth - 1] = null;
                return rest;
            }
            text.put(')');
            depth--;
            Pair head = heads[depth];
            if (head != null) {
                head.tag &= ~BEING_WRITTEN;
            }
            return null;
        }

        private void writeAtom(Value value, boolean plain) {
            if (value instanceof Num x) {
                numbers.spell(x, 10);
                text.add(numbers.spelled);
            } else if (value instanceof Text t) {
                if (t.symbol || plain) {
                    text.add(t);
                } else {
                    writeQuoted(t);
                }
            } else {
                text.append(nameOf(value));
            }
        }

        private void writeQuoted(Text t) {
            text.put('"');
            for (int i = 0; i < t.length; i++) {
                int c = t.at(i);
                if (c == '"' || c == '\\' || c == 10) {
                    text.put('\\');
                }
                text.put(c == 10 ? 'n' : c);
            }
            text.put('"');
        }

        private static String nameOf(Value value) {
            if (value instanceof Ground g) {
                return g.group == ATOM ? g.word : "#operative";
            }
            if (value instanceof Thing t) {
                switch (t.kind) {
                    case APPLICATIVE:
                        return "#applicative";
                    case CONTINUATION:
                        return "#continuation";
                    case CAPSULE:
                        return "#capsule";
                    case PROMISE:
                        return "#promise";
                    default:
                        return "#operative";
                }
            }
            return "#env";
        }
    }

    /** Evaluates data step by step, with frames of its own, and counts what that takes. */
    static final class Machine {
        private final Numbers numbers = new Numbers();
        final Notation notation = new Notation(numbers);
        final Text out = new Text(new byte[OUTPUT_ROOM], 0, false);
        /** The last value's text, or the message of the error that comes or came. */
        final Text told = new Text(new byte[2 * TEXT_MOST], 0, false);
        final Env ground = new Env(null, null, OF_GROUND);
        final Env global = new Env(ground, null, OF_GLOBAL);
        private final Frame root = new Frame(AT_ROOT, null, null, Ground.NIL, Ground.NIL, Ground.NIL, 0);
        int state;
        int fuelUsed;
        private int fuelLeft;
        int made;
        /** What is done next. */
        private int doing;
        /** What is to be evaluated, delivered, combined, or told of. */
        private Value value = Ground.NIL;
        private Value operands = Ground.NIL;
        private Env env = global;
        private Frame frame = root;
        /** Whether the combiner is a pair's car's value, so that its operands stand as they are. */
        private boolean bare;
        private Value[] stack = new Value[512];
        private Env[] waiting = new Env[64];
        private int stamp;

        // ---- a run

        void furnish(Text buffer) {
            for (int i = 0; i < GROUNDS.length; i++) {
                Ground g = GROUNDS[i];
                if (g.group == OPERATIVE) {
                    name(buffer, g.word, g);
                } else if (g.isFunction()) {
                    name(buffer, g.word, new Thing(APPLICATIVE, g));
                }
            }
            name(buffer, "root", continuation(root));
        }

        private void name(Text buffer, String word, Value meant) {
            buffer.length = 0;
            buffer.append(word);
            ground.bind(notation.symbol(buffer, 0, buffer.length), meant);
        }

        void prepare(int fuel) {
            state = FINE;
            fuelLeft = fuel;
            out.length = 0;
            told.length = 0;
        }

        /** Nothing that the library took counts. */
        void forget() {
            fuelUsed = 0;
            made = 0;
            prepare(0);
        }

        /** How many of the data that were read come to their end. */
        int work(Env where) {
            int done = 0;
            for (int i = 0; i < notation.dataCount && state == FINE; i++) {
                frame = root;
                evaluateIn(notation.data[i], where);
                for (int j = 0; j < STEPS_MOST && doing < DONE; j++) {
                    switch (doing) {
                        case EVALUATE:
                            evaluate();
                            break;
                        case DELIVER:
                            deliver();
                            break;
                        case COMBINE:
                            combine();
                            break;
                        case OPERATIVE:
                            operative();
                            break;
                        case MAKERS:
                            makers();
                            break;
                        case LISTS:
                            lists();
                            break;
                        case SUMS:
                            sums();
                            break;
                        case WHOLES:
                            wholes();
                            break;
                        case ORDER:
                            order();
                            break;
                        case TESTS:
                            tests();
                            break;
                        case KINDS:
                            kinds();
                            break;
                        case CONTROL:
                            control();
                            break;
                        case STRINGS:
                            strings();
                            break;
                        case OUTPUT:
                            output();
                            break;
                        case INNER:
                            inner();
                            break;
                        default:
                            raise();
                    }
                }
                done += doing == DONE ? 1 : 0;
            }
            return finish(done);
        }

        private int finish(int done) {
            if (state == NO_FUEL || state == USED_UP) {
                told.length = 0;
            } else if (state == FINE && done > 0) {
                told.length = 0;
                notation.write(value, false);
                told.add(notation.text);
            }
            return done;
        }

        // ---- what is counted

        private boolean spend(int fuel) {
            int taken = Math.max(0, Math.min(fuel, Math.min(fuelLeft, FUEL_MOST - fuelUsed)));
            fuelLeft -= taken;
            fuelUsed += taken;
            if (taken < fuel) {
                state = fuelLeft == 0 ? NO_FUEL : USED_UP;
                doing = ENDED;
                return false;
            }
            return true;
        }

        boolean make(int count) {
            if (made + count > MADE_MOST) {
                state = USED_UP;
                doing = ENDED;
                return false;
            }
            made += count;
            return true;
        }

        /** They count one by one: those that fit do, though the last ones end the run. */
        boolean makePairs(int count) {
            int taken = Math.max(0, Math.min(count, MADE_MOST - made));
            made += taken;
            if (taken < count) {
                state = USED_UP;
                doing = ENDED;
                return false;
            }
            return true;
        }

        /** An empty string with room for so many bytes, or null. */
        Text newString(int length) {
            int room = Math.max(0, length);
            return make(1 + (room + 15) / 16) ? new Text(new byte[room], 0, false) : null;
        }

        private Env newEnv(Env parent) {
            return make(1) ? new Env(parent, null, OWN_ROW) : null;
        }

        private static Thing continuation(Frame frame) {
            Thing made = new Thing(CONTINUATION, Ground.NIL);
            made.frame = frame;
            return made;
        }

        private boolean bind(Env where, Value key, Value meant) {
            if (where.rebind(key, meant)) {
                return true;
            }
            if (!make(1)) {
                return false;
            }
            where.bind(key, meant);
            return true;
        }

        // ---- what is done next

        private void give(Value answer) {
            value = answer;
            doing = DELIVER;
        }

        private void giveTruth(boolean answer) {
            give(answer ? Ground.TRUE : Ground.FALSE);
        }

        private void evaluateIn(Value x, Env where) {
            value = x;
            env = where;
            doing = EVALUATE;
        }

        private void combineWith(Value combiner, Value list, Env where) {
            value = combiner;
            operands = list;
            env = where;
            bare = false;
            doing = COMBINE;
        }

        private void push(int kind, Value a, Value b, Value c) {
            frame = new Frame(kind, frame, env, a, b, c, 0);
        }

        private void complain(String what, String name) {
            told.length = 0;
            told.append(what);
            told.append(name);
            doing = RAISE;
        }

        private void complainAbout(String what, Value about) {
            complain(what, "");
            value = about;
            doing = RAISE_ABOUT;
        }

        private void badArguments(Ground g) {
            told.length = 0;
            told.append("bad arguments: ");
            told.append(g.word);
            doing = RAISE;
        }

        /** The innermost $guard takes the error, or the run ends. */
        private void raise() {
            if (doing == RAISE_ABOUT) {
                notation.write(value, false);
                told.add(notation.text);
            }
            told.cut(MESSAGE_MOST);
            Frame f = frame;
            while (f != null && f.kind != AT_CATCH) {
                f = f.under;
            }
            if (f == null || f.under == null) {
                state = WRONG;
                doing = ENDED;
                return;
            }
            Text message = newString(told.length);
            if (message == null || !make(1)) {
                return;
            }
            message.add(told);
            frame = f.under;
            combineWith(f.a, new Pair(message, Ground.NIL), f.env);
        }

        // ---- looking at values

        private static Value head(Value list) {
            return list instanceof Pair p ? p.car : Ground.NIL;
        }

        private static Value rest(Value list) {
            return list instanceof Pair p ? p.cdr : Ground.NIL;
        }

        private Value operand(int i) {
            Value at = operands;
            for (int j = 0; j < i; j++) {
                at = rest(at);
            }
            return head(at);
        }

        /** How many pairs the list has; below 0 if it is none. */
        private static int lengthOf(Value list) {
            Value at = list;
            for (int n = 0; n <= LIST_MOST; n++) {
                if (at == Ground.NIL) {
                    return n;
                }
                if (!(at instanceof Pair p)) {
                    return NONE;
                }
                at = p.cdr;
            }
            return NONE;
        }

        /** How many of the list's pairs are not fixed: these stand ahead of the fixed ones. */
        private static int looseIn(Value list) {
            int n = 0;
            Value at = list;
            while (n < LIST_MOST && at instanceof Pair p && !p.fixed) {
                n++;
                at = p.cdr;
            }
            return n;
        }

        /** The list as it stands: fixed pairs can't change, the others are made anew. */
        private static Value kept(Value list) {
            if (!(list instanceof Pair first) || first.fixed) {
                return list;
            }
            Pair made = new Pair(first.car, first.cdr);
            Pair last = made;
            for (int i = 1; i < LIST_MOST && last.cdr instanceof Pair p && !p.fixed; i++) {
                Pair next = new Pair(p.car, p.cdr);
                last.cdr = next;
                last = next;
            }
            return made;
        }

        /** The list as it stands, paid for; null when the run ended. */
        private Value taken(Value list) {
            return spend(looseIn(list)) ? kept(list) : null;
        }

        private static Value turned(Value list) {
            Value made = Ground.NIL;
            Value at = list;
            for (int i = 0; i < LIST_MOST && at instanceof Pair p; i++) {
                made = new Pair(p.car, made);
                at = p.cdr;
            }
            return made;
        }

        /** A new list of the values, the latest of which stands first; null when the run ended. */
        private Value newList(Value latestFirst) {
            return makePairs(lengthOf(latestFirst)) ? turned(latestFirst) : null;
        }

        private static boolean isString(Value v) {
            return v instanceof Text t && !t.symbol;
        }

        private static boolean isSymbol(Value v) {
            return v instanceof Text t && t.symbol;
        }

        private static boolean isInteger(Value v) {
            return v instanceof Num x && x.isInteger();
        }

        private static boolean isThing(Value v, int kind) {
            return v instanceof Thing t && t.kind == kind;
        }

        private static boolean isTruth(Value v) {
            return v == Ground.TRUE || v == Ground.FALSE;
        }

        private static boolean isOperative(Value v) {
            return v instanceof Ground g ? g.isOperative() : isThing(v, COMPOUND) || isThing(v, KEYED);
        }

        private static boolean isCombiner(Value v) {
            return isThing(v, APPLICATIVE) || isOperative(v);
        }

        private static Value belowOf(Value applicative) {
            return applicative instanceof Thing t ? t.below : Ground.NIL;
        }

        private static Frame frameOf(Value v) {
            return v instanceof Thing t ? t.frame : null;
        }

        /** The ground's combiner that is at work. */
        private Ground atWork() {
            return value instanceof Ground g ? g : Ground.NIL;
        }

        // ---- names

        /** An environment that was seen in this search meant nothing, by whatever way it is come to. */
        private Value meaning(Env start, Value key) {
            stamp++;
            int left = 0;
            Env e = start;
            for (int i = 0; i < WALK_MOST; i++) {
                if (e == null || e.seen == stamp) {
                    if (left <= 0 || left > waiting.length) {
                        return null;
                    }
                    left--;
                    e = waiting[left];
                } else {
                    e.seen = stamp;
                    Value meant = e.own(key);
                    if (meant != null) {
                        return meant;
                    }
                    left = await(e.others, left);
                    e = e.parent;
                }
            }
            return null;
        }

        private int await(Env[] others, int left) {
            int n = left;
            if (others != null) {
                if (n + others.length > waiting.length) {
                    widenWaiting(n + others.length);
                }
                for (int i = others.length - 1; i >= 0 && n < waiting.length; i--) {
                    waiting[n] = others[i];
                    n++;
                }
            }
            return n;
        }

        private void widenWaiting(int room) {
            Env[] wider = new Env[2 * Math.max(64, room)];
            for (int i = 0; i < waiting.length && i < wider.length; i++) {
                wider[i] = waiting[i];
            }
            waiting = wider;
        }

        private void stackUp(int depth, Value v) {
            if (depth >= stack.length) {
                Value[] wider = new Value[2 * stack.length];
                for (int i = 0; i < stack.length; i++) {
                    wider[i] = stack[i];
                }
                stack = wider;
            }
            if (depth >= 0 && depth < stack.length) {
                stack[depth] = v;
            }
        }

        private Value unstack(int depth) {
            return depth >= 0 && depth < stack.length && stack[depth] != null ? stack[depth] : Ground.NIL;
        }

        // ---- trees

        /** How many of the tree's pairs are not fixed; below 0 if it is none. Its symbols bear the stamp then. */
        private int looseInTree(Value tree) {
            stamp++;
            int depth = 0;
            int loose = 0;
            Value at = tree;
            for (int parts = 1; parts <= TREE_MOST; parts++) {
                if (at instanceof Pair p) {
                    loose += p.fixed ? 0 : 1;
                    stackUp(depth, p.cdr);
                    depth++;
                    at = p.car;
                } else {
                    if (at instanceof Text s) {
                        if (!s.symbol || s.mark == stamp) {
                            return NONE;
                        }
                        s.mark = stamp;
                    } else if (at != Ground.NIL && at != Ground.IGNORE) {
                        return NONE;
                    }
                    if (depth == 0) {
                        return loose;
                    }
                    depth--;
                    at = unstack(depth);
                }
            }
            return NONE;
        }

        private static boolean isLoose(Value v) {
            return v instanceof Pair p && !p.fixed;
        }

        private Value keptTree(Value tree) {
            if (!(tree instanceof Pair first) || first.fixed) {
                return tree;
            }
            Pair made = new Pair(first.car, first.cdr);
            stackUp(0, made);
            int depth = 1;
            for (int i = 0; i < TREE_MOST && depth > 0; i++) {
                depth--;
                if (unstack(depth) instanceof Pair p) {
                    if (isLoose(p.car)) {
                        p.car = new Pair(head(p.car), rest(p.car));
                        stackUp(depth, p.car);
                        depth++;
                    }
                    if (isLoose(p.cdr)) {
                        p.cdr = new Pair(head(p.cdr), rest(p.cdr));
                        stackUp(depth, p.cdr);
                        depth++;
                    }
                }
            }
            return made;
        }

        /** The tree as it stands, paid for; null when it is bad or the run ended. */
        private Value takenTree(Value tree) {
            int loose = looseInTree(tree);
            if (loose < 0) {
                complain("bad tree", "");
                return null;
            }
            return spend(loose) ? keptTree(tree) : null;
        }

        /** False when the two don't match, or the run ended. */
        private boolean match(Value tree, Value given, Env where) {
            int depth = 0;
            Value at = tree;
            Value v = given;
            for (int i = 0; i < TREE_MOST; i++) {
                if (at instanceof Pair p && v instanceof Pair q) {
                    stackUp(depth, p.cdr);
                    stackUp(depth + 1, q.cdr);
                    depth += 2;
                    at = p.car;
                    v = q.car;
                } else {
                    if (at instanceof Pair || at == Ground.NIL && v != Ground.NIL) {
                        complain("mismatch", "");
                        return false;
                    }
                    if (isSymbol(at) && !bind(where, at, v)) {
                        return false;
                    }
                    if (depth < 2) {
                        return true;
                    }
                    depth -= 2;
                    at = unstack(depth);
                    v = unstack(depth + 1);
                }
            }
            return true;
        }

        private void define(Value tree, Value given, Env where) {
            if (where != null && match(tree, given, where)) {
                give(Ground.INERT);
            }
        }

        // ---- evaluating and combining

        private void evaluate() {
            if (!spend(1)) {
                return;
            }
            if (value instanceof Pair p) {
                operands = p.cdr;
                if (p.car instanceof Pair) {
                    push(AT_OPERATOR, p.cdr, Ground.NIL, Ground.NIL);
                    value = p.car;
                } else if (spend(1)) {
                    // What is no pair is evaluated at once: a frame for it could never be seen.
                    value = p.car;
                    bare = true;
                    doing = COMBINE;
                    look();
                }
            } else {
                doing = DELIVER;
                look();
            }
        }

        /** Puts what a symbol means in its place. */
        private void look() {
            if (isSymbol(value)) {
                Value meant = meaning(env, value);
                if (meant == null) {
                    complainAbout("unbound: ", value);
                } else {
                    value = meant;
                }
            }
        }

        private void combine() {
            if (value instanceof Ground g && g.group >= OPERATIVE && g.group <= OUTPUT) {
                combineGround(g);
            } else if (isThing(value, APPLICATIVE)) {
                combineApplicative(belowOf(value));
            } else if (value instanceof Thing t && t.kind == COMPOUND) {
                combineCompound(t);
            } else if (isThing(value, KEYED)) {
                doing = INNER;
            } else {
                complainAbout("not a combiner: ", value);
            }
        }

        private void combineGround(Ground g) {
            int n = lengthOf(operands);
            boolean right = n >= g.least && n <= g.most;
            if (g.group == OPERATIVE) {
                if (!right) {
                    complain("bad operands: ", g.word);
                    return;
                }
                Value list = taken(operands);
                if (list != null) {
                    operands = list;
                    doing = OPERATIVE;
                }
                return;
            }
            if (bare && !spend(Math.max(0, n))) {
                return;
            }
            if (right) {
                doing = g.group;
            } else {
                badArguments(g);
            }
        }

        private void combineApplicative(Value below) {
            if (lengthOf(operands) < 0) {
                complainAbout("bad operands: ", operands);
                return;
            }
            Value list = taken(operands);
            if (list != null) {
                argument(list, Ground.NIL, below, env);
            }
        }

        /** Evaluates the next of the operands that are left, or combines when all values are there. */
        private void argument(Value left, Value latestFirst, Value below, Env where) {
            env = where;
            if (left instanceof Pair p) {
                push(AT_ARGUMENT, p.cdr, latestFirst, below);
                evaluateIn(p.car, where);
                return;
            }
            Value list = newList(latestFirst);
            if (list != null) {
                combineWith(below, list, where);
            }
        }

        private void combineCompound(Thing t) {
            Env local = newEnv(t.env);
            if (local == null || !match(t.tree, operands, local)) {
                return;
            }
            if (isSymbol(t.symbol) && !bind(local, t.symbol, env)) {
                return;
            }
            sequence(t.below, local);
        }

        private void sequence(Value body, Env where) {
            env = where;
            if (!(body instanceof Pair p)) {
                give(Ground.INERT);
                return;
            }
            if (p.cdr instanceof Pair) {
                push(AT_SEQUENCE, p.cdr, Ground.NIL, Ground.NIL);
            }
            evaluateIn(p.car, where);
        }

        /** What apply and an extended continuation do: the list is combined as it stands. */
        private void combineAsItStands(Value below, Value list, Env where) {
            if (!spend(1)) {
                return;
            }
            if (below instanceof Ground g && g.isFunction() && !spend(Math.max(0, lengthOf(list)))) {
                return;
            }
            Env at = where == null ? newEnv(null) : where;
            if (at != null) {
                combineWith(below, list, at);
            }
        }

        // ---- values that come to a frame

        private void deliver() {
            Frame f = frame;
            if (f.under == null) {
                doing = DONE;
                return;
            }
            frame = f.under;
            env = f.env == null ? env : f.env;
            switch (f.kind) {
                case AT_OPERATOR:
                    combineWith(value, f.a, env);
                    bare = true;
                    break;
                case AT_ARGUMENT:
                    argument(f.a, new Pair(value, f.b), f.c, env);
                    break;
                case AT_SEQUENCE:
                    sequence(f.a, env);
                    break;
                case AT_IF:
                    if (decided()) {
                        evaluateIn(value == Ground.TRUE ? f.a : f.b, env);
                    }
                    break;
                case AT_COND:
                    if (decided()) {
                        clause(f.a);
                    }
                    break;
                case AT_AND:
                case AT_OR:
                    if (decided() && value == (f.kind == AT_AND ? Ground.TRUE : Ground.FALSE)) {
                        logic(f.kind, f.a);
                    }
                    break;
                case AT_DEFINE:
                    define(f.a, value, env);
                    break;
                case AT_PLACE:
                    place(f);
                    break;
                case AT_SET:
                    define(f.a, value, f.b instanceof Env e ? e : null);
                    break;
                default:
                    deliverMore(f);
                    break;
            }
        }

        private void deliverMore(Frame f) {
            switch (f.kind) {
                case AT_LET:
                    letNext(f.a, new Pair(value, f.b), f.c);
                    break;
                case AT_BINDS:
                    binds(f.a);
                    break;
                case AT_HANDLER:
                    if (isCombiner(value)) {
                        push(AT_CATCH, value, Ground.NIL, Ground.NIL);
                        evaluateIn(f.a, env);
                    } else {
                        complainAbout("not a combiner: ", value);
                    }
                    break;
                case AT_FORCE:
                    forced(f.a);
                    break;
                case AT_MAP:
                    mapNext(f.a, f.b, new Pair(value, f.c), f.count);
                    break;
                case AT_EXTENDED:
                    combineAsItStands(f.a, value, f.env);
                    break;
                case AT_PASSAGE:
                    travel(f.a, f.b, f);
                    break;
                default:
                    // A guard, a catch or a dynamic binding: the value goes on.
                    break;
            }
        }

        /** Whether the value is a truth; else the error. */
        private boolean decided() {
            if (isTruth(value)) {
                return true;
            }
            complainAbout("not a truth: ", value);
            return false;
        }

        /** Of the clauses the first one's test has its value. */
        private void clause(Value clauses) {
            if (value == Ground.TRUE) {
                sequence(rest(head(clauses)), env);
            } else {
                cond(rest(clauses));
            }
        }

        private void cond(Value clauses) {
            if (clauses instanceof Pair p) {
                push(AT_COND, clauses, Ground.NIL, Ground.NIL);
                evaluateIn(head(p.car), env);
            } else {
                give(Ground.INERT);
            }
        }

        private void logic(int kind, Value left) {
            if (left instanceof Pair p) {
                push(kind, p.cdr, Ground.NIL, Ground.NIL);
                evaluateIn(p.car, env);
            } else {
                giveTruth(kind == AT_AND);
            }
        }

        private void place(Frame f) {
            if (isEnv(value)) {
                push(AT_SET, f.a, value, Ground.NIL);
                evaluateIn(f.b, env);
            } else {
                badArguments(Ground.SET);
            }
        }

        private static boolean isEnv(Value v) {
            return v instanceof Env;
        }

        private void binds(Value symbols) {
            boolean right = isEnv(value);
            boolean all = true;
            Value at = symbols;
            for (int i = 0; i < LIST_MOST && at instanceof Pair p; i++) {
                right = right && isSymbol(p.car);
                at = p.cdr;
            }
            if (!right) {
                badArguments(Ground.BINDS);
                return;
            }
            at = symbols;
            for (int i = 0; i < LIST_MOST && at instanceof Pair p && value instanceof Env e; i++) {
                all = all && meaning(e, p.car) != null;
                at = p.cdr;
            }
            giveTruth(all);
        }

        // ---- operatives

        private void operative() {
            Ground g = atWork();
            Value first = operand(0);
            switch (g) {
                case IF:
                    push(AT_IF, operand(1), operand(2), Ground.NIL);
                    evaluateIn(first, env);
                    break;
                case DEFINE:
                    defining(AT_DEFINE, first, operand(1), Ground.NIL);
                    break;
                case SET:
                    defining(AT_PLACE, operand(1), first, operand(2));
                    break;
                case VAU:
                    vau(first, operand(1), rest(rest(operands)), false);
                    break;
                case LAMBDA:
                    vau(first, Ground.IGNORE, rest(operands), true);
                    break;
                case SEQUENCE:
                    sequence(operands, env);
                    break;
                case LET:
                    let(first);
                    break;
                case COND:
                    condFirst();
                    break;
                case AND:
                    logic(AT_AND, operands);
                    break;
                case OR:
                    logic(AT_OR, operands);
                    break;
                case QUOTE:
                    give(first);
                    break;
                case BINDS:
                    push(AT_BINDS, rest(operands), Ground.NIL, Ground.NIL);
                    evaluateIn(first, env);
                    break;
                case CURRENT:
                    give(env);
                    break;
                case GUARD:
                    push(AT_HANDLER, first, Ground.NIL, Ground.NIL);
                    evaluateIn(operand(1), env);
                    break;
                default:
                    lazy(first);
                    break;
            }
        }

        private void defining(int kind, Value tree, Value x, Value later) {
            Value kept = takenTree(tree);
            if (kept != null) {
                push(kind, kept, later, Ground.NIL);
                evaluateIn(x, env);
            }
        }

        private void vau(Value tree, Value symbol, Value body, boolean wrapped) {
            int loose = looseInTree(tree);
            boolean named = symbol instanceof Text s && s.symbol && s.mark != stamp;
            if (loose < 0 || !named && symbol != Ground.IGNORE) {
                complain("bad tree", "");
                return;
            }
            if (!spend(loose) || !make(1) || wrapped && !make(1)) {
                return;
            }
            Thing made = new Thing(COMPOUND, body);
            made.tree = keptTree(tree);
            made.symbol = symbol;
            made.env = env;
            give(wrapped ? new Thing(APPLICATIVE, made) : made);
        }

        private void lazy(Value x) {
            if (make(1)) {
                Thing made = new Thing(PROMISE, x);
                made.env = env;
                give(made);
            }
        }

        private void condFirst() {
            int loose = 0;
            Value at = operands;
            for (int i = 0; i < LIST_MOST && at instanceof Pair p; i++) {
                if (lengthOf(p.car) < 1) {
                    complain("bad operands: ", Ground.COND.word);
                    return;
                }
                loose += looseIn(p.car);
                at = p.cdr;
            }
            if (!spend(loose)) {
                return;
            }
            // The pairs that are not fixed are this list's own by now.
            at = operands;
            for (int i = 0; i < LIST_MOST && at instanceof Pair p && !p.fixed; i++) {
                p.car = kept(p.car);
                at = p.cdr;
            }
            cond(operands);
        }

        private void let(Value bindings) {
            int loose = looseIn(bindings);
            boolean right = lengthOf(bindings) >= 0;
            Value at = bindings;
            for (int i = 0; right && i < LIST_MOST && at instanceof Pair p; i++) {
                right = lengthOf(p.car) == 2;
                loose += looseIn(p.car);
                at = p.cdr;
            }
            if (!right) {
                complain("bad operands: ", Ground.LET.word);
                return;
            }
            if (!spend(loose)) {
                return;
            }
            Value list = kept(bindings);
            if (takenBindings(list)) {
                letNext(list, Ground.NIL, new Pair(list, rest(operands)));
            }
        }

        /** Looks at the trees and pays for them; the list's pairs that are not fixed are its own. */
        private boolean takenBindings(Value list) {
            Value at = list;
            for (int i = 0; i < LIST_MOST && at instanceof Pair p; i++) {
                Value tree = takenTree(head(p.car));
                if (tree == null) {
                    return false;
                }
                if (!p.fixed) {
                    p.car = new Pair(tree, new Pair(head(rest(p.car)), Ground.NIL));
                }
                at = p.cdr;
            }
            return true;
        }

        /** Whole is the list of bindings and, behind it, the body. */
        private void letNext(Value left, Value latestFirst, Value whole) {
            if (left instanceof Pair p) {
                push(AT_LET, p.cdr, latestFirst, whole);
                evaluateIn(head(rest(p.car)), env);
                return;
            }
            Env local = newEnv(env);
            if (local == null) {
                return;
            }
            Value values = turned(latestFirst);
            Value at = head(whole);
            for (int i = 0; i < LIST_MOST && at instanceof Pair p; i++) {
                if (!match(head(p.car), head(values), local)) {
                    return;
                }
                values = rest(values);
                at = p.cdr;
            }
            sequence(rest(whole), local);
        }

        // ---- applicatives that make things

        private void makers() {
            Ground g = atWork();
            Value x = operand(0);
            switch (g) {
                case WRAP:
                    if (!isCombiner(x)) {
                        badArguments(g);
                    } else if (make(1)) {
                        give(new Thing(APPLICATIVE, x));
                    }
                    break;
                case UNWRAP:
                    if (isThing(x, APPLICATIVE)) {
                        give(belowOf(x));
                    } else {
                        badArguments(g);
                    }
                    break;
                case MAKE_ENVIRONMENT:
                    makeEnvironment();
                    break;
                case MAKE_DYNAMIC:
                    makeKeyed(Ground.BIND_DYNAMIC, Ground.GET_DYNAMIC, null);
                    break;
                case MAKE_STATIC:
                    makeKeyed(Ground.BIND_STATIC, Ground.GET_STATIC, null);
                    break;
                case MAKE_CAPSULE:
                    makeKeyed(Ground.SEAL, Ground.IS_SEALED, Ground.UNSEAL);
                    break;
                case MEMOIZE:
                    if (make(1)) {
                        give(new Thing(PROMISE, x));
                    }
                    break;
                case TO_APPLICATIVE:
                    if (!isThing(x, CONTINUATION)) {
                        badArguments(g);
                    } else if (make(1)) {
                        give(passer(frameOf(x)));
                    }
                    break;
                default:
                    extend(x);
                    break;
            }
        }

        private void makeEnvironment() {
            int n = lengthOf(operands);
            Env[] others = n > 1 ? new Env[n - 1] : null;
            Env first = null;
            Value at = operands;
            for (int i = 0; i < n && at instanceof Pair p; i++) {
                if (!(p.car instanceof Env e)) {
                    badArguments(Ground.MAKE_ENVIRONMENT);
                    return;
                }
                if (i == 0) {
                    first = e;
                } else if (others != null && i - 1 < others.length) {
                    others[i - 1] = e;
                }
                at = p.cdr;
            }
            if (make(Math.max(1, n))) {
                give(new Env(first, others, OWN_ROW));
            }
        }

        private static Thing keyed(Ground inner, Thing key) {
            Thing made = new Thing(KEYED, Ground.NIL);
            made.inner = inner;
            made.key = key;
            return made;
        }

        /** An applicative that passes its operands on to the frame. */
        private static Thing passer(Frame to) {
            Thing below = new Thing(KEYED, Ground.NIL);
            below.inner = Ground.PASS;
            below.frame = to;
            return new Thing(APPLICATIVE, below);
        }

        /** Two or three applicatives that know one another by a key. */
        private void makeKeyed(Ground one, Ground two, Ground three) {
            int n = three == null ? 2 : 3;
            if (!makePairs(n) || !makePairs(n)) {
                return;
            }
            Thing key = keyed(one, null);
            key.key = key;
            Value last = three == null ? Ground.NIL
                : new Pair(new Thing(APPLICATIVE, keyed(three, key)), Ground.NIL);
            Value behind = new Pair(new Thing(APPLICATIVE, keyed(two, key)), last);
            give(new Pair(new Thing(APPLICATIVE, key), behind));
        }

        private void extend(Value k) {
            Value f = operand(1);
            Value e = operand(2);
            boolean here = lengthOf(operands) == 3;
            Frame under = frameOf(k);
            if (!isThing(k, CONTINUATION) || !isThing(f, APPLICATIVE) || here && !isEnv(e)) {
                badArguments(Ground.EXTEND);
            } else if (make(1)) {
                Env where = e instanceof Env given ? given : null;
                give(continuation(new Frame(AT_EXTENDED, under, where, belowOf(f), Ground.NIL, Ground.NIL, 0)));
            }
        }

        // ---- lists

        private void lists() {
            Ground g = atWork();
            Value x = operand(0);
            switch (g) {
                case CONS:
                    if (make(1)) {
                        give(new Pair(x, operand(1)));
                    }
                    break;
                case CAR:
                case CDR:
                    if (x instanceof Pair p) {
                        give(g == Ground.CAR ? p.car : p.cdr);
                    } else {
                        badArguments(g);
                    }
                    break;
                case SET_CAR:
                case SET_CDR:
                    setPair(g, x, operand(1));
                    break;
                case LIST:
                    give(operands);
                    break;
                case LENGTH:
                    if (lengthOf(x) < 0) {
                        badArguments(g);
                    } else {
                        give(new Num(lengthOf(x)));
                    }
                    break;
                case APPEND:
                    append();
                    break;
                case REVERSE:
                    if (lengthOf(x) < 0) {
                        badArguments(g);
                    } else if (makePairs(lengthOf(x))) {
                        give(turned(x));
                    }
                    break;
                default:
                    listTail(x, operand(1));
                    break;
            }
        }

        private void setPair(Ground g, Value x, Value part) {
            if (!(x instanceof Pair p) || p.fixed) {
                badArguments(g);
                return;
            }
            notation.clean = false;
            if (g == Ground.SET_CAR) {
                p.car = part;
            } else {
                p.cdr = part;
            }
            give(Ground.INERT);
        }

        private void append() {
            int n = lengthOf(operands);
            Value at = operands;
            for (int i = 0; i < n - 1 && at instanceof Pair p; i++) {
                if (lengthOf(p.car) < 0) {
                    badArguments(Ground.APPEND);
                    return;
                }
                at = p.cdr;
            }
            Pair ahead = new Pair(Ground.NIL, Ground.NIL);
            Pair last = ahead;
            at = operands;
            for (int i = 0; i < n - 1 && at instanceof Pair p; i++) {
                Value from = p.car;
                for (int j = 0; j < LIST_MOST && from instanceof Pair q; j++) {
                    if (!make(1)) {
                        return;
                    }
                    Pair next = new Pair(q.car, Ground.NIL);
                    last.cdr = next;
                    last = next;
                    from = q.cdr;
                }
                at = p.cdr;
            }
            last.cdr = head(at);
            give(ahead.cdr);
        }

        private void listTail(Value list, Value count) {
            int length = lengthOf(list);
            if (length < 0 || !(count instanceof Num n) || n.top != null || n.small < 0 || n.small > length) {
                badArguments(Ground.LIST_TAIL);
                return;
            }
            Value at = list;
            for (long i = 0; i < n.small; i++) {
                at = rest(at);
            }
            give(at);
        }

        // ---- numbers

        /** Whether all arguments are numbers, and integers if they must be whole; else the error. */
        private boolean areNumbers(Ground g, boolean whole) {
            Value at = operands;
            for (int i = 0; i < LIST_MOST && at instanceof Pair p; i++) {
                if (!(p.car instanceof Num x) || whole && !x.isInteger()) {
                    badArguments(g);
                    return false;
                }
                at = p.cdr;
            }
            return true;
        }

        private void sums() {
            Ground g = atWork();
            if (!areNumbers(g, g == Ground.GCD || g == Ground.LCM)) {
                return;
            }
            Value at = operands;
            numbers.begin(g == Ground.TIMES || g == Ground.OVER || g == Ground.LCM ? 1 : 0);
            if ((g == Ground.MINUS || g == Ground.OVER) && rest(at) instanceof Pair && head(at) instanceof Num first) {
                numbers.take(first);
                at = rest(at);
            }
            boolean fits = true;
            for (int i = 0; fits && i < LIST_MOST && at instanceof Pair p && p.car instanceof Num x; i++) {
                switch (g) {
                    case PLUS:
                        fits = numbers.add(x, false);
                        break;
                    case MINUS:
                        fits = numbers.add(x, true);
                        break;
                    case TIMES:
                        fits = numbers.multiply(x, false);
                        break;
                    case OVER:
                        if (x.isZero()) {
                            complain("divided by zero", "");
                            return;
                        }
                        fits = numbers.multiply(x, true);
                        break;
                    case GCD:
                        numbers.gcdWith(x);
                        break;
                    default:
                        fits = numbers.lcmWith(x);
                        break;
                }
                at = p.cdr;
            }
            answer(fits);
        }

        private void answer(boolean fits) {
            if (!fits) {
                complain("too great", "");
                return;
            }
            Num found = numbers.give();
            if (make(found.cost())) {
                give(found);
            }
        }

        private void wholes() {
            Ground g = atWork();
            boolean whole = g == Ground.DIV || g == Ground.MOD;
            if (!areNumbers(g, whole) || !(operand(0) instanceof Num x)) {
                return;
            }
            Num y = operand(1) instanceof Num second ? second : x;
            switch (g) {
                case DIV:
                case MOD:
                    if (y.isZero()) {
                        complain("divided by zero", "");
                        return;
                    }
                    answer(numbers.divide(x, y, g == Ground.MOD));
                    break;
                case NUMERATOR:
                case DENOMINATOR:
                    numbers.part(x, g == Ground.DENOMINATOR);
                    answer(true);
                    break;
                case ABS:
                    numbers.absolute(x);
                    answer(true);
                    break;
                case EXPT:
                    if (y.top != null || y.small < 0 || y.small > POWER_MOST) {
                        badArguments(g);
                        return;
                    }
                    answer(numbers.power(x, (int) y.small));
                    break;
                default:
                    answer(numbers.toInteger(x, g));
                    break;
            }
        }

        private void order() {
            Ground g = atWork();
            if (!areNumbers(g, false) || !(operand(0) instanceof Num first)) {
                return;
            }
            Num best = first;
            Num before = first;
            boolean all = true;
            Value at = rest(operands);
            for (int i = 0; i < LIST_MOST && at instanceof Pair p && p.car instanceof Num x; i++) {
                boolean choice = g == Ground.MIN || g == Ground.MAX;
                int sign = numbers.compare(choice ? best : before, x);
                switch (g) {
                    case MIN:
                        best = sign > 0 ? x : best;
                        break;
                    case MAX:
                        best = sign < 0 ? x : best;
                        break;
                    case LESS:
                        all = all && sign < 0;
                        break;
                    case LESS_OR_SAME:
                        all = all && sign <= 0;
                        break;
                    case MORE:
                        all = all && sign > 0;
                        break;
                    case MORE_OR_SAME:
                        all = all && sign >= 0;
                        break;
                    default:
                        all = all && sign == 0;
                        break;
                }
                before = x;
                at = p.cdr;
            }
            if (g == Ground.MIN || g == Ground.MAX) {
                give(best);
            } else {
                giveTruth(all);
            }
        }

        // ---- what is asked of values

        private void tests() {
            Ground g = atWork();
            Value x = operand(0);
            switch (g) {
                case NOT:
                    if (isTruth(x)) {
                        giveTruth(x == Ground.FALSE);
                    } else {
                        badArguments(g);
                    }
                    break;
                case IS_EQ:
                    giveTruth(same(x, operand(1)));
                    break;
                case IS_EQUAL:
                    int equal = equal(x, operand(1));
                    if (equal < 0) {
                        badArguments(g);
                    } else {
                        giveTruth(equal == 1);
                    }
                    break;
                default:
                    testNumber(g, x);
                    break;
            }
        }

        private void testNumber(Ground g, Value v) {
            boolean parity = g == Ground.IS_EVEN || g == Ground.IS_ODD;
            if (!(v instanceof Num x) || parity && !x.isInteger()) {
                badArguments(g);
            } else if (parity) {
                giveTruth(x.isOdd() == (g == Ground.IS_ODD));
            } else if (g == Ground.IS_ZERO) {
                giveTruth(x.isZero());
            } else {
                giveTruth(g == Ground.IS_NEGATIVE ? x.negative : !x.negative && !x.isZero());
            }
        }

        private boolean same(Value x, Value y) {
            return x == y || x instanceof Num a && y instanceof Num b && numbers.compare(a, b) == 0;
        }

        /** 1 or 0; below 0 when that takes too many comparisons. */
        private int equal(Value x, Value y) {
            int depth = 0;
            Value a = x;
            Value b = y;
            for (int i = 0; i < COMPARISONS_MOST; i++) {
                if (a instanceof Pair p && b instanceof Pair q) {
                    stackUp(depth, p.cdr);
                    stackUp(depth + 1, q.cdr);
                    depth += 2;
                    a = p.car;
                    b = q.car;
                } else {
                    boolean bytes = a instanceof Text s && b instanceof Text t
                        && !s.symbol && !t.symbol && s.same(t, 0, t.length);
                    if (!bytes && !same(a, b)) {
                        return 0;
                    }
                    if (depth < 2) {
                        return 1;
                    }
                    depth -= 2;
                    a = unstack(depth);
                    b = unstack(depth + 1);
                }
            }
            return NONE;
        }

        private void kinds() {
            Value x = operand(0);
            giveTruth(isOfKind(atWork(), x));
        }

        private static boolean isOfKind(Ground g, Value x) {
            switch (g) {
                case IS_NULL:
                    return x == Ground.NIL;
                case IS_PAIR:
                    return x instanceof Pair;
                case IS_NUMBER:
                    return x instanceof Num;
                case IS_INTEGER:
                    return isInteger(x);
                case IS_BOOLEAN:
                    return isTruth(x);
                case IS_SYMBOL:
                    return isSymbol(x);
                case IS_STRING:
                    return isString(x);
                case IS_INERT:
                    return x == Ground.INERT;
                case IS_IGNORE:
                    return x == Ground.IGNORE;
                case IS_ENVIRONMENT:
                    return isEnv(x);
                case IS_COMBINER:
                    return isCombiner(x);
                case IS_OPERATIVE:
                    return isOperative(x);
                case IS_APPLICATIVE:
                    return isThing(x, APPLICATIVE);
                case IS_CONTINUATION:
                    return isThing(x, CONTINUATION);
                default:
                    return isThing(x, PROMISE);
            }
        }

        // ---- control

        private void control() {
            Ground g = atWork();
            Value x = operand(0);
            Value y = operand(1);
            switch (g) {
                case EVAL:
                    if (y instanceof Env e) {
                        evaluateIn(x, e);
                    } else {
                        badArguments(g);
                    }
                    break;
                case APPLY:
                    apply(x, y, operand(2));
                    break;
                case MAP:
                    map(x);
                    break;
                case CALL_CC:
                    if (!isCombiner(x)) {
                        badArguments(g);
                    } else if (makePairs(2)) {
                        combineWith(x, new Pair(continuation(frame), Ground.NIL), env);
                    }
                    break;
                case THROW:
                    if (isThing(x, CONTINUATION)) {
                        pass(frameOf(x), y);
                    } else {
                        badArguments(g);
                    }
                    break;
                case GUARD_EXTENT:
                    guardExtent(x, y, operand(2));
                    break;
                default:
                    force(x);
                    break;
            }
        }

        private void apply(Value f, Value list, Value e) {
            boolean here = lengthOf(operands) == 3;
            if (!isThing(f, APPLICATIVE) || here && !isEnv(e)) {
                badArguments(Ground.APPLY);
            } else {
                combineAsItStands(belowOf(f), list, e instanceof Env given ? given : null);
            }
        }

        private void map(Value f) {
            Value lists = rest(operands);
            int rounds = lengthOf(head(lists));
            boolean right = isThing(f, APPLICATIVE) && rounds >= 0;
            Value at = lists;
            for (int i = 0; right && i < LIST_MOST && at instanceof Pair p; i++) {
                right = lengthOf(p.car) == rounds;
                at = p.cdr;
            }
            if (right) {
                mapNext(belowOf(f), kept(lists), Ground.NIL, rounds);
            } else {
                badArguments(Ground.MAP);
            }
        }

        /** Begins the next round, at the pairs that the lists have come to. */
        private void mapNext(Value below, Value lists, Value latestFirst, int rounds) {
            if (rounds <= 0) {
                Value list = newList(latestFirst);
                if (list != null) {
                    give(list);
                }
                return;
            }
            Value at = lists;
            int n = 0;
            for (int i = 0; i < LIST_MOST && at instanceof Pair p; i++) {
                if (!(p.car instanceof Pair)) {
                    badArguments(Ground.MAP);
                    return;
                }
                n++;
                at = p.cdr;
            }
            if (!makePairs(n)) {
                return;
            }
            Pair firsts = new Pair(Ground.NIL, Ground.NIL);
            Pair next = new Pair(Ground.NIL, Ground.NIL);
            Pair lastFirst = firsts;
            Pair lastNext = next;
            at = lists;
            for (int i = 0; i < n && at instanceof Pair p; i++) {
                Pair one = new Pair(head(p.car), Ground.NIL);
                Pair two = new Pair(rest(p.car), Ground.NIL);
                lastFirst.cdr = one;
                lastNext.cdr = two;
                lastFirst = one;
                lastNext = two;
                at = p.cdr;
            }
            frame = new Frame(AT_MAP, frame, env, below, next.cdr, latestFirst, rounds - 1);
            combineWith(below, firsts.cdr, env);
        }

        private void force(Value x) {
            if (!(x instanceof Thing t) || t.kind != PROMISE) {
                give(x);
                return;
            }
            Thing p = promised(t);
            if (p.env == null) {
                give(p.below);
            } else {
                push(AT_FORCE, p, Ground.NIL, Ground.NIL);
                evaluateIn(p.below, p.env);
            }
        }

        /** The promise whose value this one has or gets. */
        private static Thing promised(Thing promise) {
            Thing p = promise;
            while (p.key != null) {
                p = p.key;
            }
            return p;
        }

        private void forced(Value promise) {
            if (!(promise instanceof Thing t)) {
                return;
            }
            Thing p = promised(t);
            if (p.env == null) {
                give(p.below);
            } else if (value instanceof Thing other && other.kind == PROMISE) {
                Thing q = promised(other);
                if (q != p) {
                    p.key = q;
                    p.env = null;
                }
                force(q);
            } else {
                p.below = value;
                p.env = null;
            }
        }

        // ---- guards and passing

        private void guardExtent(Value entries, Value f, Value exits) {
            int in = looseInClauses(entries);
            int out = looseInClauses(exits);
            if (in < 0 || out < 0 || !isCombiner(f)) {
                badArguments(Ground.GUARD_EXTENT);
            } else if (spend(in) && spend(out)) {
                push(AT_GUARD, keptClauses(entries), keptClauses(exits), Ground.NIL);
                combineWith(f, Ground.NIL, env);
            }
        }

        /** How many pairs of the list and its clauses are not fixed; below 0 if they are not right. */
        private static int looseInClauses(Value list) {
            if (lengthOf(list) < 0) {
                return NONE;
            }
            int loose = looseIn(list);
            Value at = list;
            for (int i = 0; i < LIST_MOST && at instanceof Pair p; i++) {
                boolean two = lengthOf(p.car) == 2;
                if (!two || !isThing(head(p.car), CONTINUATION) || !isThing(head(rest(p.car)), APPLICATIVE)) {
                    return NONE;
                }
                loose += looseIn(p.car);
                at = p.cdr;
            }
            return loose;
        }

        private static Value keptClauses(Value list) {
            Value made = kept(list);
            Value at = made;
            for (int i = 0; i < LIST_MOST && at instanceof Pair p && !p.fixed; i++) {
                p.car = kept(p.car);
                at = p.cdr;
            }
            return made;
        }

        private void pass(Frame to, Value x) {
            value = x;
            travel(continuation(to), continuation(frame), null);
        }

        /**
         * Goes on with a passing from one continuation to another: behind the frame of a guard that was
         * passed, or (null) from the start. Which guards take part hangs on frames that can't change, so
         * each is looked for only when the one before is done.
         */
        private void travel(Value to, Value from, Frame passed) {
            Frame target = frameOf(to);
            Frame source = frameOf(from);
            if (target == null || source == null) {
                give(value);
                return;
            }
            int shared = sharedDepth(target, source);
            boolean entering = passed != null && passed.count == 1;
            Frame start = passed == null ? source : passed.under;
            Frame guard = entering ? null : nearestGuard(start);
            while (guard != null && guard.depth > shared) {
                Value f = clauseFor(guard.b, target);
                if (f != null) {
                    intercept(guard, f, to, from, 0);
                    return;
                }
                guard = guard.guard;
            }
            int beyond = entering ? passed.depth : shared;
            Frame outermost = null;
            Value found = null;
            for (Frame g = nearestGuard(target); g != null && g.depth > beyond; g = g.guard) {
                Value f = clauseFor(g.a, source);
                outermost = f == null ? outermost : g;
                found = f == null ? found : f;
            }
            if (outermost != null) {
                intercept(outermost, found, to, from, 1);
            } else {
                frame = target;
                doing = DELIVER;
            }
        }

        private static Frame nearestGuard(Frame f) {
            return f == null || f.kind == AT_GUARD ? f : f.guard;
        }

        private static int sharedDepth(Frame one, Frame two) {
            Frame a = one;
            Frame b = two;
            while (a != null && b != null && a != b) {
                int difference = a.depth - b.depth;
                a = difference >= 0 ? a.under : a;
                b = difference <= 0 ? b.under : b;
            }
            return a == null || b == null ? NONE : a.depth;
        }

        /** The applicative of the first clause whose continuation has the frame, or null. */
        private static Value clauseFor(Value clauses, Frame frame) {
            Value at = clauses;
            for (int i = 0; i < LIST_MOST && at instanceof Pair p; i++) {
                Frame wanted = frameOf(head(p.car));
                Frame f = frame;
                while (f != null && wanted != null && f.depth > wanted.depth && wanted.depth > 0) {
                    f = f.under;
                }
                if (wanted != null && (wanted.depth == 0 || f == wanted)) {
                    return head(rest(p.car));
                }
                at = p.cdr;
            }
            return null;
        }

        private void intercept(Frame guard, Value f, Value to, Value from, int entering) {
            Value x = value;
            if (!make(1) || !make(1) || !makePairs(2)) {
                return;
            }
            Value list = new Pair(x, new Pair(passer(guard.under), Ground.NIL));
            frame = new Frame(AT_PASSAGE, guard.under, null, to, from, Ground.NIL, entering);
            combineWith(belowOf(f), list, new Env(null, null, OWN_ROW));
        }

        // ---- what dynamics, statics, capsules and continuations make

        private void inner() {
            if (!(value instanceof Thing t) || t.inner == null) {
                doing = DELIVER;
                return;
            }
            Ground g = t.inner;
            if (g == Ground.PASS) {
                if (!bare && operands != Ground.NIL || spend(1)) {
                    pass(t.frame, operands);
                }
                return;
            }
            int n = lengthOf(operands);
            if (n < g.least || n > g.most) {
                badArguments(g);
                return;
            }
            Value x = operand(0);
            switch (g) {
                case BIND_DYNAMIC:
                    bindDynamic(t.key, x, operand(1));
                    break;
                case GET_DYNAMIC:
                    getDynamic(t.key);
                    break;
                case BIND_STATIC:
                    bindStatic(t.key, x, operand(1));
                    break;
                case GET_STATIC:
                    getStatic(t.key);
                    break;
                case SEAL:
                    seal(t.key, x);
                    break;
                default:
                    boolean sealed = x instanceof Thing c && c.kind == CAPSULE && c.key == t.key;
                    if (g == Ground.IS_SEALED) {
                        giveTruth(sealed);
                    } else if (sealed) {
                        give(belowOf(x));
                    } else {
                        badArguments(g);
                    }
                    break;
            }
        }

        private void bindDynamic(Thing key, Value x, Value f) {
            if (isCombiner(f)) {
                push(AT_DYNAMIC, key, x, Ground.NIL);
                combineWith(f, Ground.NIL, env);
            } else {
                badArguments(Ground.BIND_DYNAMIC);
            }
        }

        private void getDynamic(Thing key) {
            Frame f = frame;
            while (f != null && (f.kind != AT_DYNAMIC || f.a != key)) {
                f = f.under;
            }
            if (f == null) {
                complain("unbound: ", Ground.GET_DYNAMIC.word);
            } else {
                give(f.b);
            }
        }

        private void bindStatic(Thing key, Value x, Value e) {
            if (!(e instanceof Env parent)) {
                badArguments(Ground.BIND_STATIC);
                return;
            }
            Env local = newEnv(parent);
            if (local != null && bind(local, key, x)) {
                give(local);
            }
        }

        private void getStatic(Thing key) {
            Value meant = meaning(env, key);
            if (meant == null) {
                complain("unbound: ", Ground.GET_STATIC.word);
            } else {
                give(meant);
            }
        }

        private void seal(Thing key, Value x) {
            if (make(1)) {
                Thing made = new Thing(CAPSULE, x);
                made.key = key;
                give(made);
            }
        }

        // ---- strings and output

        private void strings() {
            Ground g = atWork();
            Value x = operand(0);
            Text t = x instanceof Text s ? s : null;
            boolean right = g == Ground.STRING_APPEND || g == Ground.NUMBER_TO_STRING
                || t != null && t.symbol == (g == Ground.SYMBOL_TO_STRING);
            if (!right) {
                badArguments(g);
                return;
            }
            switch (g) {
                case STRING_APPEND:
                    stringAppend();
                    break;
                case STRING_LENGTH:
                    give(new Num(t == null ? 0 : t.length));
                    break;
                case SYMBOL_TO_STRING:
                    giveString(t);
                    break;
                case STRING_TO_SYMBOL:
                    if (t != null && notation.isSymbol(t)) {
                        give(notation.symbol(t, 0, t.length));
                    } else {
                        badArguments(g);
                    }
                    break;
                case NUMBER_TO_STRING:
                    spell(x, operand(1), lengthOf(operands) == 2);
                    break;
                default:
                    if (t != null && numbers.parse(t, 0, t.length) == Numbers.A_NUMBER) {
                        numbers.lowest();
                        answer(true);
                    } else {
                        give(Ground.FALSE);
                    }
                    break;
            }
        }

        private void giveString(Text bytes) {
            Text made = bytes == null ? null : newString(bytes.length);
            if (made != null) {
                made.add(bytes);
                give(made);
            }
        }

        private void stringAppend() {
            int length = 0;
            Value at = operands;
            for (int i = 0; i < LIST_MOST && at instanceof Pair p; i++) {
                if (!(p.car instanceof Text t) || t.symbol) {
                    badArguments(Ground.STRING_APPEND);
                    return;
                }
                length += t.length;
                at = p.cdr;
            }
            if (length > STRING_MOST) {
                badArguments(Ground.STRING_APPEND);
                return;
            }
            Text made = newString(length);
            if (made == null) {
                return;
            }
            at = operands;
            for (int i = 0; i < LIST_MOST && at instanceof Pair p && p.car instanceof Text t; i++) {
                made.add(t);
                at = p.cdr;
            }
            give(made);
        }

        private void spell(Value v, Value radix, boolean given) {
            long base = 10;
            boolean right = v instanceof Num;
            if (given) {
                boolean small = radix instanceof Num n && n.isInteger() && n.top == null;
                base = radix instanceof Num n ? n.small : 0;
                right = right && small && base >= 2 && base <= 36;
            }
            if (right && v instanceof Num x) {
                numbers.spell(x, (int) base);
                giveString(numbers.spelled);
            } else {
                badArguments(Ground.NUMBER_TO_STRING);
            }
        }

        private void output() {
            Ground g = atWork();
            Text sink = g == Ground.ERROR ? told : out;
            if (g == Ground.ERROR) {
                complain("", "");
            } else {
                give(Ground.INERT);
            }
            if (g == Ground.NEWLINE) {
                sink.put(10);
            }
            Value at = operands;
            for (int i = 0; i < LIST_MOST && at instanceof Pair p; i++) {
                if (i > 0) {
                    sink.put(' ');
                }
                if (sink != told || told.length < MESSAGE_MOST) {
                    notation.write(p.car, g != Ground.WRITE);
                    sink.add(notation.text);
                }
                at = p.cdr;
            }
        }
    }
}
