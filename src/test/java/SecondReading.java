import java.math.BigInteger;
import java.util.ArrayDeque;
import java.util.ArrayList;
import java.util.Collections;
import java.util.HashMap;
import java.util.HashSet;
import java.util.IdentityHashMap;
import java.util.List;
import java.util.Map;
import java.util.Set;

/**
 * The document once more, sentence by sentence, plainly and with the Java library: what EnvironTongue is
 * compared with. Texts are Strings whose characters are bytes.
 */
final class SecondReading {
    private static final int MOST = 30000;
    private static final BigInteger LIMIT = BigInteger.ONE.shiftLeft(2048);
    private static final BigInteger LONG_LIMIT = BigInteger.ONE.shiftLeft(63);

    // ---- what ends a run, or what is going on

    @SuppressWarnings("serial")
    private static class Stop extends RuntimeException {
        Stop() {
            super(null, null, false, false);
        }
    }

    @SuppressWarnings("serial")
    private static final class Fault extends Stop {
        final int place;

        Fault(int place) {
            this.place = place;
        }
    }

    @SuppressWarnings("serial")
    private static final class Ended extends Stop {
        final int state;

        Ended(int state) {
            this.state = state;
        }
    }

    @SuppressWarnings("serial")
    private static final class Wrong extends Stop {
        final String message;

        Wrong(String message) {
            this.message = message.substring(0, Math.min(200, message.length()));
        }
    }

    // ---- values; truths are Booleans

    private enum Single {
        NIL("()"), INERT("#inert"), IGNORE("#ignore");

        final String text;

        Single(String text) {
            this.text = text;
        }
    }

    private static final Object NIL = Single.NIL;
    private static final Object INERT = Single.INERT;
    private static final Object IGNORE = Single.IGNORE;

    /** In least terms, d above 0. */
    private record Num(BigInteger n, BigInteger d) {
        static Num of(BigInteger n, BigInteger d) {
            BigInteger g = n.gcd(d).multiply(BigInteger.valueOf(d.signum()));
            return new Num(n.divide(g), d.divide(g));
        }

        static Num of(BigInteger n) {
            return new Num(n, BigInteger.ONE);
        }

        static Num of(long n) {
            return of(BigInteger.valueOf(n));
        }

        boolean whole() {
            return d.equals(BigInteger.ONE);
        }

        Num fitting() {
            if (n.abs().compareTo(LIMIT) >= 0 || d.compareTo(LIMIT) >= 0) {
                throw new Wrong("too great");
            }
            return this;
        }

        int compare(Num y) {
            return n.multiply(y.d).compareTo(y.n.multiply(d));
        }

        String text(int radix) {
            return n.toString(radix) + (whole() ? "" : "/" + d.toString(radix));
        }

        int cost() {
            if (whole() && n.compareTo(LONG_LIMIT) < 0 && n.compareTo(LONG_LIMIT.negate()) >= 0) {
                return 0;
            }
            return 1 + (n.abs().bitLength() + 63) / 64 + (whole() ? 0 : (d.bitLength() + 63) / 64);
        }

        BigInteger floor() {
            BigInteger[] parts = n.divideAndRemainder(d);
            return parts[1].signum() < 0 ? parts[0].subtract(BigInteger.ONE) : parts[0];
        }
    }

    private static final class Sym {
        final String name;

        Sym(String name) {
            this.name = name;
        }
    }

    private static final class Str {
        final String bytes;

        Str(String bytes) {
            this.bytes = bytes;
        }
    }

    private static final class Pair {
        Object car;
        Object cdr;
        final boolean fixed;

        Pair(Object car, Object cdr, boolean fixed) {
            this.car = car;
            this.cdr = cdr;
            this.fixed = fixed;
        }
    }

    private static final class Env {
        final List<Env> parents;
        final Map<Object, Object> bindings = new IdentityHashMap<>();

        Env(List<Env> parents) {
            this.parents = parents;
        }

        Object meaning(Object key) {
            Set<Env> seen = Collections.newSetFromMap(new IdentityHashMap<>());
            ArrayDeque<Env> row = new ArrayDeque<>();
            row.push(this);
            while (!row.isEmpty()) {
                Env e = row.pop();
                if (seen.add(e)) {
                    if (e.bindings.containsKey(key)) {
                        return e.bindings.get(key);
                    }
                    for (int i = e.parents.size() - 1; i >= 0; i--) {
                        row.push(e.parents.get(i));
                    }
                }
            }
            return null;
        }
    }

    /** What can be combined; bare tells that it was a pair's car's value. */
    private interface Combiner {
        Step combine(Object operands, Env env, boolean bare);
    }

    private record Applicative(Combiner below, SecondReading machine) implements Combiner {
        @Override
        public Step combine(Object operands, Env env, boolean bare) {
            return machine.combineApplicative(below, operands, env);
        }
    }

    /** What is below one of the applicatives that the document names. */
    private static final class Function implements Combiner {
        private final Combiner way;

        Function(Combiner way) {
            this.way = way;
        }

        @Override
        public Step combine(Object operands, Env env, boolean bare) {
            return way.combine(operands, env, bare);
        }
    }

    private interface Way {
        Step go(List<Object> list, Env env);
    }

    private static final class Continuation {
        final Frame frame;

        Continuation(Frame frame) {
            this.frame = frame;
        }
    }

    private record Capsule(Object key, Object[] value) {
    }

    /** Promises that have one value share one Later. */
    private static final class Promise {
        Later later = new Later();
    }

    private static final class Later {
        Object x;
        Env env;
        Object value;
        Later next;

        Later last() {
            Later at = this;
            while (at.next != null) {
                at = at.next;
            }
            return at;
        }
    }

    // ---- what goes on

    private interface Step {
        Step next();
    }

    private interface Then {
        Step with(Object value);
    }

    private static class Frame {
        final Frame under;
        final Then then;

        Frame(Frame under, Then then) {
            this.under = under;
            this.then = then;
        }

        /** Whether this continuation is the other one, or that with more frames on it. */
        boolean isOn(Frame other) {
            Frame at = this;
            while (at != null && at != other) {
                at = at.under;
            }
            return at != null;
        }
    }

    private static final class Catch extends Frame {
        final Combiner handler;
        final Env env;

        Catch(Frame under, Then then, Combiner handler, Env env) {
            super(under, then);
            this.handler = handler;
            this.env = env;
        }
    }

    private static final class Bound extends Frame {
        final Object key;
        final Object value;

        Bound(Frame under, Then then, Object key, Object value) {
            super(under, then);
            this.key = key;
            this.value = value;
        }
    }

    private record Clause(Frame wanted, Combiner below) {
    }

    private static final class Guard extends Frame {
        final List<Clause> entries;
        final List<Clause> exits;

        Guard(Frame under, Then then, List<Clause> entries, List<Clause> exits) {
            super(under, then);
            this.entries = entries;
            this.exits = exits;
        }
    }

    private record Passage(Guard guard, Combiner below) {
    }

    private final Map<String, Sym> symbols = new HashMap<>();
    private final Env ground = new Env(List.of());
    private final Env global = new Env(List.of(ground));
    private final Frame root = new Frame(null, this::end);
    private Frame frame = root;
    private Object latest = NIL;
    private int left;
    private boolean counting = false;
    private boolean over = false;

    // ---- what the face tells

    int state = 0;
    int fuel = 0;
    int made = 0;
    String told = "";
    final StringBuilder out = new StringBuilder();

    SecondReading(String library) {
        nameOperatives();
        nameMakers();
        nameLists();
        nameNumbers();
        nameTests();
        nameControl();
        nameStrings();
        ground.bindings.put(symbol("root"), new Continuation(root));
        for (Object datum : new Reader(library).data()) {
            evaluateDatum(datum, ground);
        }
        counting = true;
    }

    int bindings() {
        return global.bindings.size();
    }

    int run(String text, int given) {
        if (given < 0 || given > MOST || over) {
            return -1;
        }
        state = 0;
        told = "";
        out.setLength(0);
        left = given;
        int done = 0;
        try {
            for (Object datum : new Reader(text).data()) {
                evaluateDatum(datum, global);
                done++;
            }
            told = done > 0 ? text(latest, false) : "";
        } catch (Fault f) {
            return -2 - f.place;
        } catch (Wrong w) {
            state = 1;
            told = w.message;
        } catch (Ended e) {
            state = e.state;
            over = state == 3;
        }
        return done;
    }

    private Step end(Object value) {
        latest = value;
        return null;
    }

    private void evaluateDatum(Object datum, Env env) {
        frame = root;
        Step step = evaluate(datum, env);
        while (step != null) {
            try {
                step = step.next();
            } catch (Wrong w) {
                step = raise(w);
            }
        }
    }

    private Step raise(Wrong w) {
        Frame at = frame;
        while (at != null && !(at instanceof Catch)) {
            at = at.under;
        }
        if (!(at instanceof Catch c)) {
            throw w;
        }
        frame = c.under;
        Object list = newList(List.of(newString(w.message)));
        return () -> c.handler.combine(list, c.env, false);
    }

    // ---- what is counted

    private void spend(int n) {
        for (int i = 0; counting && i < n; i++) {
            if (left == 0) {
                throw new Ended(2);
            }
            if (fuel == MOST) {
                throw new Ended(3);
            }
            left--;
            fuel++;
        }
    }

    private void make(int n) {
        if (counting && made + n > MOST) {
            throw new Ended(3);
        }
        made += counting ? n : 0;
    }

    private Pair cons(Object car, Object cdr) {
        make(1);
        return new Pair(car, cdr, false);
    }

    private Object newList(List<?> values) {
        return newList(values, NIL);
    }

    private Object newList(List<?> values, Object tail) {
        Object made = tail;
        for (int i = values.size() - 1; i >= 0; i--) {
            made = cons(values.get(i), made);
        }
        return made;
    }

    private Str newString(String bytes) {
        make(1 + (bytes.length() + 15) / 16);
        return new Str(bytes);
    }

    private Num answered(Num x) {
        x.fitting();
        make(x.cost());
        return x;
    }

    private Env newEnv(List<Env> parents) {
        make(Math.max(1, parents.size()));
        return new Env(parents);
    }

    private void bind(Env env, Object key, Object value) {
        if (!env.bindings.containsKey(key)) {
            make(1);
        }
        env.bindings.put(key, value);
    }

    private Sym symbol(String name) {
        return symbols.computeIfAbsent(name, Sym::new);
    }

    // ---- reading: a datum is read by what begins it

    private static boolean inWord(int c) {
        return c >= 33 && c <= 126 && "()\";".indexOf(c) < 0;
    }

    /** What a word is: a number, a truth or another constant, a symbol's name, or null. */
    private static Object word(String w) {
        if (w.matches("-?[0-9]+(/[0-9]+)?")) {
            String[] rows = w.split("/");
            BigInteger n = new BigInteger(rows[0]);
            BigInteger d = rows.length > 1 ? new BigInteger(rows[1]) : BigInteger.ONE;
            boolean right = n.abs().compareTo(LIMIT) < 0 && d.compareTo(LIMIT) < 0 && d.signum() > 0;
            return right ? Num.of(n, d) : null;
        }
        switch (w) {
            case "#t":
                return true;
            case "#f":
                return false;
            case "#inert":
                return INERT;
            case "#ignore":
                return IGNORE;
            default:
                return w.startsWith("#") || w.equals(".") ? null : w;
        }
    }

    private final class Reader {
        private final String text;
        private int at = 0;
        private int open = 0;
        private final Map<Integer, Pair> labelled = new HashMap<>();

        Reader(String text) {
            this.text = text;
        }

        List<Object> data() {
            List<Object> data = new ArrayList<>();
            while (ahead() >= 0) {
                data.add(datum());
            }
            return data;
        }

        /** The byte that the next token begins with, or -1. */
        private int ahead() {
            while (at < text.length()) {
                char c = text.charAt(at);
                if (c == ';') {
                    int line = text.indexOf('\n', at);
                    at = line < 0 ? text.length() : line;
                } else if (c == ' ' || c == '\n' || c == '\r' || c == '\t') {
                    at++;
                } else {
                    return c;
                }
            }
            return -1;
        }

        private Object datum() {
            int c = ahead();
            if (c == '(') {
                return list(null);
            }
            if (c == '"') {
                return string();
            }
            if (!inWord(c)) {
                throw new Fault(at);
            }
            int from = at;
            String w = wordAhead();
            Object meant = word(w);
            if (meant instanceof Num x) {
                make(x.cost());
            }
            if (meant != null) {
                at = from + w.length();
                return meant instanceof String name ? symbol(name) : meant;
            }
            if (!w.matches("#[0-9]{1,4}[=#]")) {
                throw new Fault(from);
            }
            at = from + w.length();
            return labelOrReference(w, from);
        }

        private String wordAhead() {
            int end = at;
            while (end < text.length() && inWord(text.charAt(end))) {
                end++;
            }
            return text.substring(at, end);
        }

        private Object labelOrReference(String w, int from) {
            Integer number = Integer.valueOf(w.substring(1, w.length() - 1));
            if (w.endsWith("=") == labelled.containsKey(number)) {
                throw new Fault(from);
            }
            if (w.endsWith("#")) {
                return labelled.get(number);
            }
            if (ahead() != '(') {
                throw new Fault(at);
            }
            return list(number);
        }

        private Object list(Integer label) {
            if (open == 100) {
                throw new Fault(at);
            }
            open++;
            at++;
            Pair head = label == null ? null : new Pair(null, NIL, true);
            if (label != null) {
                labelled.put(label, head);
            }
            Pair last = null;
            int count = 0;
            for (int c = ahead(); c != ')'; c = ahead()) {
                if (c == '.' && wordAhead().equals(".") && last != null) {
                    at++;
                    last.cdr = datum();
                    if (ahead() != ')') {
                        throw new Fault(at);
                    }
                    break;
                }
                Object item = datum();
                Pair next = last == null && head != null ? head : new Pair(null, NIL, true);
                next.car = item;
                if (last != null) {
                    last.cdr = next;
                }
                head = head == null ? next : head;
                last = next;
                count++;
            }
            if (label != null && last == null) {
                throw new Fault(at);
            }
            for (int i = 0; i < count; i++) {
                make(1);
            }
            at++;
            open--;
            return last == null ? NIL : head;
        }

        private Object string() {
            StringBuilder bytes = new StringBuilder();
            for (int i = at + 1; i < text.length(); i++) {
                char c = text.charAt(i);
                if (c == '"') {
                    at = i + 1;
                    return newString(bytes.toString());
                }
                if (c == '\\' && i + 1 < text.length()) {
                    int which = "\"\\n".indexOf(text.charAt(i + 1));
                    if (which < 0) {
                        throw new Fault(i);
                    }
                    bytes.append("\"\\\n".charAt(which));
                    i++;
                } else {
                    bytes.append(c);
                }
            }
            throw new Fault(at);
        }
    }

    // ---- texts

    private static String text(Object value, boolean plain) {
        Set<Object> marked = Collections.newSetFromMap(new IdentityHashMap<>());
        markAlong(value, marked);
        Writer w = new Writer(marked, plain);
        w.put(value);
        return w.text.length() > 1000 ? w.text.substring(0, 1000) + "..." : w.text.toString();
    }

    /** What is on the way is met again before it is done; a pair stands twice on the row, to be done at last. */
    private static void markAlong(Object value, Set<Object> marked) {
        Map<Object, Boolean> done = new IdentityHashMap<>();
        ArrayDeque<Object> row = new ArrayDeque<>();
        ArrayDeque<Boolean> back = new ArrayDeque<>();
        row.push(value);
        back.push(false);
        while (!row.isEmpty()) {
            Object x = row.pop();
            if (back.pop()) {
                done.put(x, true);
            } else if (x instanceof Pair p) {
                Boolean before = done.putIfAbsent(p, false);
                if (before == null) {
                    row.push(p);
                    back.push(true);
                    row.push(p.cdr);
                    back.push(false);
                    row.push(p.car);
                    back.push(false);
                } else if (!before) {
                    marked.add(p);
                }
            }
        }
    }

    private static final class Writer {
        final StringBuilder text = new StringBuilder();
        private final Set<Object> marked;
        private final boolean plain;
        private final Map<Object, Integer> numbers = new IdentityHashMap<>();
        private final Set<Object> within = Collections.newSetFromMap(new IdentityHashMap<>());

        Writer(Set<Object> marked, boolean plain) {
            this.marked = marked;
            this.plain = plain;
        }

        void put(Object value) {
            if (text.length() > 1000) {
                return;
            }
            if (!(value instanceof Pair p)) {
                text.append(atom(value));
                return;
            }
            if (marked.contains(p)) {
                numbers.putIfAbsent(p, numbers.size());
                text.append('#').append(numbers.get(p)).append(within.contains(p) ? '#' : '=');
                if (!within.add(p)) {
                    return;
                }
            }
            text.append('(');
            put(p.car);
            Object rest = p.cdr;
            while (rest instanceof Pair q && !marked.contains(q) && text.length() <= 1000) {
                text.append(' ');
                put(q.car);
                rest = q.cdr;
            }
            if (rest != NIL) {
                text.append(" . ");
                put(rest);
            }
            text.append(')');
            within.remove(p);
        }

        private String atom(Object x) {
            if (x instanceof Str s) {
                return plain ? s.bytes
                    : '"' + s.bytes.replace("\\", "\\\\").replace("\"", "\\\"").replace("\n", "\\n") + '"';
            }
            return x instanceof Boolean b ? b ? "#t" : "#f"
                : x instanceof Single s ? s.text
                : x instanceof Num n ? n.text(10)
                : x instanceof Sym s ? s.name
                : x instanceof Env ? "#env"
                : x instanceof Applicative ? "#applicative"
                : x instanceof Combiner ? "#operative"
                : x instanceof Continuation ? "#continuation"
                : x instanceof Capsule ? "#capsule" : "#promise";
        }
    }

    private static String texts(List<Object> values, boolean plain) {
        StringBuilder s = new StringBuilder();
        for (int i = 0; i < values.size(); i++) {
            s.append(i > 0 ? " " : "").append(text(values.get(i), plain));
        }
        return s.toString();
    }

    // ---- lists and trees

    /** The values of a LIST, or null. */
    private static List<Object> listed(Object value) {
        List<Object> values = new ArrayList<>();
        Object at = value;
        while (at instanceof Pair p && values.size() <= 1000) {
            values.add(p.car);
            at = p.cdr;
        }
        return at == NIL && values.size() <= 1000 ? values : null;
    }

    private static int loose(Object list) {
        int n = 0;
        for (Object at = list; at instanceof Pair p; at = p.cdr) {
            n += p.fixed ? 0 : 1;
        }
        return n;
    }

    /** A look at a tree, and at the symbol that mustn't be in it. */
    private static final class Look {
        int parts = 0;
        int loose = 0;
        final Set<Object> names = new HashSet<>();

        Object copy(Object tree) {
            parts++;
            boolean leaf = tree == NIL || tree == IGNORE || tree instanceof Sym && names.add(tree);
            if (parts > 200 || !leaf && !(tree instanceof Pair)) {
                throw new Wrong("bad tree");
            }
            if (!(tree instanceof Pair p)) {
                return tree;
            }
            loose += p.fixed ? 0 : 1;
            Object car = copy(p.car);
            return new Pair(car, copy(p.cdr), true);
        }
    }

    private Object tree(Object tree, Object symbol) {
        Look look = new Look();
        Object copy = look.copy(tree);
        if (symbol != IGNORE && !(symbol instanceof Sym && !look.names.contains(symbol))) {
            throw new Wrong("bad tree");
        }
        spend(look.loose);
        return copy;
    }

    private void match(Object tree, Object value, Env env) {
        if (tree instanceof Sym) {
            bind(env, tree, value);
        } else if (tree instanceof Pair t) {
            if (!(value instanceof Pair v)) {
                throw new Wrong("mismatch");
            }
            match(t.car, v.car, env);
            match(t.cdr, v.cdr, env);
        } else if (tree == NIL && value != NIL) {
            throw new Wrong("mismatch");
        }
    }

    // ---- evaluating

    private Step give(Object value) {
        return () -> {
            Frame at = frame;
            frame = at.under;
            return at.then.with(value);
        };
    }

    private void push(Then then) {
        frame = new Frame(frame, then);
    }

    private Step evaluate(Object x, Env env) {
        return () -> {
            spend(1);
            if (x instanceof Sym s) {
                Object meant = env.meaning(s);
                if (meant == null) {
                    throw new Wrong("unbound: " + s.name);
                }
                return give(meant);
            }
            if (!(x instanceof Pair p)) {
                return give(x);
            }
            Object operands = p.cdr;
            push(c -> combiner(c).combine(operands, env, true));
            return evaluate(p.car, env);
        };
    }

    private static Combiner combiner(Object c) {
        if (c instanceof Combiner found) {
            return found;
        }
        throw new Wrong("not a combiner: " + text(c, false));
    }

    private static boolean truth(Object t) {
        if (t instanceof Boolean b) {
            return b;
        }
        throw new Wrong("not a truth: " + text(t, false));
    }

    private Step combineApplicative(Combiner below, Object operands, Env env) {
        List<Object> list = listed(operands);
        if (list == null) {
            throw new Wrong("bad operands: " + text(operands, false));
        }
        spend(loose(operands));
        return arguments(below, list, new ArrayList<>(), env);
    }

    private Step arguments(Combiner below, List<Object> list, List<Object> values, Env env) {
        int n = values.size();
        if (n == list.size()) {
            Object made = newList(values);
            return () -> below.combine(made, env, false);
        }
        push(v -> arguments(below, list, with(values, v), env));
        return evaluate(list.get(n), env);
    }

    /** A new list: frames can be come back to. */
    private static List<Object> with(List<Object> values, Object v) {
        List<Object> more = new ArrayList<>(values);
        more.add(v);
        return more;
    }

    private Step sequence(List<Object> body, Env env) {
        if (body.isEmpty()) {
            return give(INERT);
        }
        List<Object> rest = body.subList(1, body.size());
        if (!rest.isEmpty()) {
            push(v -> sequence(rest, env));
        }
        return evaluate(body.get(0), env);
    }

    /** What apply and an extended continuation do. */
    private Step combineAsItStands(Combiner below, Object list, Env env) {
        spend(1);
        if (below instanceof Function && listed(list) != null) {
            spend(listed(list).size());
        }
        Env where = env == null ? newEnv(List.of()) : env;
        return () -> below.combine(list, where, false);
    }

    // ---- passing

    private Combiner passer(Frame to) {
        return (operands, env, bare) -> {
            spend(bare || operands == NIL ? 1 : 0);
            return pass(to, operands);
        };
    }

    private Step pass(Frame to, Object value) {
        Frame from = frame;
        List<Passage> passages = new ArrayList<>();
        for (Frame f = from; f != null; f = f.under) {
            if (f instanceof Guard g && !to.isOn(g)) {
                addFirst(passages, g, g.exits, to);
            }
        }
        List<Passage> entries = new ArrayList<>();
        for (Frame f = to; f != null; f = f.under) {
            if (f instanceof Guard g && !from.isOn(g)) {
                addFirst(entries, g, g.entries, from);
            }
        }
        Collections.reverse(entries);
        passages.addAll(entries);
        return passOn(passages, to, value);
    }

    private static void addFirst(List<Passage> passages, Guard guard, List<Clause> clauses, Frame other) {
        for (Clause c : clauses) {
            if (other.isOn(c.wanted)) {
                passages.add(new Passage(guard, c.below));
                return;
            }
        }
    }

    private Step passOn(List<Passage> passages, Frame to, Object value) {
        if (passages.isEmpty()) {
            frame = to;
            return give(value);
        }
        Passage first = passages.get(0);
        Frame around = first.guard.under;
        make(1);
        Object passer = new Applicative(passer(around), this);
        Env env = newEnv(List.of());
        Object list = newList(List.of(value, passer));
        List<Passage> rest = passages.subList(1, passages.size());
        frame = new Frame(around, v -> passOn(rest, to, v));
        return () -> first.below.combine(list, env, false);
    }

    // ---- the ground's names

    private void operative(String name, int least, int most, Way way) {
        Combiner made = (operands, env, bare) -> {
            List<Object> list = listed(operands);
            if (list == null || list.size() < least || list.size() > most) {
                throw new Wrong("bad operands: " + name);
            }
            spend(loose(operands));
            return way.go(list, env);
        };
        ground.bindings.put(symbol(name), made);
    }

    private interface Whole {
        Step go(List<Object> list, Object operands, Env env);
    }

    private void whole(String name, int least, int most, Whole way) {
        Combiner below = new Function((operands, env, bare) -> {
            List<Object> list = listed(operands);
            spend(bare && list != null ? list.size() : 0);
            need(list != null && list.size() >= least && list.size() <= most, name);
            return way.go(list, operands, env);
        });
        ground.bindings.put(symbol(name), new Applicative(below, this));
    }

    private void applicative(String name, int least, int most, Way way) {
        whole(name, least, most, (list, operands, env) -> way.go(list, env));
    }

    private interface Answer {
        Object of(List<Object> list);
    }

    /** One that answers a value, and does nothing else with what goes on. */
    private void answer(String name, int least, int most, Answer answer) {
        applicative(name, least, most, (list, env) -> give(answer.of(list)));
    }

    private static void need(boolean right, String name) {
        if (!right) {
            throw new Wrong("bad arguments: " + name);
        }
    }

    private static final int ANY = 1000;

    private void nameOperatives() {
        operative("$if", 3, 3, (l, env) -> {
            push(t -> evaluate(l.get(truth(t) ? 1 : 2), env));
            return evaluate(l.get(0), env);
        });
        operative("$define!", 2, 2, (l, env) -> {
            Object tree = tree(l.get(0), IGNORE);
            push(v -> define(tree, v, env));
            return evaluate(l.get(1), env);
        });
        operative("$set!", 3, 3, (l, env) -> {
            Object tree = tree(l.get(1), IGNORE);
            push(e -> {
                need(e instanceof Env, "$set!");
                push(v -> define(tree, v, (Env) e));
                return evaluate(l.get(2), env);
            });
            return evaluate(l.get(0), env);
        });
        operative("$vau", 2, ANY, (l, env) -> give(vau(l.get(0), l.get(1), l.subList(2, l.size()), env)));
        operative("$lambda", 1, ANY, (l, env) -> {
            Combiner below = vau(l.get(0), IGNORE, l.subList(1, l.size()), env);
            make(1);
            return give(new Applicative(below, this));
        });
        operative("$sequence", 0, ANY, this::sequence);
        operative("$let", 1, ANY, this::let);
        operative("$cond", 0, ANY, (l, env) -> {
            List<List<Object>> clauses = new ArrayList<>();
            for (Object c : l) {
                List<Object> clause = listed(c);
                if (clause == null || clause.isEmpty()) {
                    throw new Wrong("bad operands: $cond");
                }
                clauses.add(clause);
            }
            l.forEach(c -> spend(loose(c)));
            return cond(clauses, env);
        });
        operative("$and?", 0, ANY, (l, env) -> logic(l, true, env));
        operative("$or?", 0, ANY, (l, env) -> logic(l, false, env));
        operative("$quote", 1, 1, (l, env) -> give(l.get(0)));
        operative("$binds?", 1, ANY, (l, env) -> {
            List<Object> names = l.subList(1, l.size());
            push(e -> {
                need(e instanceof Env && names.stream().allMatch(s -> s instanceof Sym), "$binds?");
                return give(names.stream().allMatch(s -> ((Env) e).meaning(s) != null));
            });
            return evaluate(l.get(0), env);
        });
        operative("$current", 0, 0, (l, env) -> give(env));
        operative("$guard", 2, 2, (l, env) -> {
            push(h -> {
                frame = new Catch(frame, this::give, combiner(h), env);
                return evaluate(l.get(0), env);
            });
            return evaluate(l.get(1), env);
        });
        operative("$lazy", 1, 1, (l, env) -> {
            make(1);
            Promise p = new Promise();
            p.later.x = l.get(0);
            p.later.env = env;
            return give(p);
        });
    }

    private Step define(Object tree, Object value, Env env) {
        match(tree, value, env);
        return give(INERT);
    }

    private Combiner vau(Object t, Object symbol, List<Object> body, Env home) {
        Object tree = tree(t, symbol);
        make(1);
        return (operands, env, bare) -> {
            Env local = newEnv(List.of(home));
            match(tree, operands, local);
            if (symbol != IGNORE) {
                bind(local, symbol, env);
            }
            return sequence(body, local);
        };
    }

    private Step let(List<Object> l, Env env) {
        List<Object> bindings = listed(l.get(0));
        List<List<Object>> both = new ArrayList<>();
        for (Object b : bindings == null ? List.of() : bindings) {
            both.add(listed(b));
        }
        if (bindings == null || both.stream().anyMatch(b -> b == null || b.size() != 2)) {
            throw new Wrong("bad operands: $let");
        }
        spend(loose(l.get(0)));
        bindings.forEach(b -> spend(loose(b)));
        List<Object> trees = new ArrayList<>();
        both.forEach(b -> trees.add(tree(b.get(0), IGNORE)));
        return letNext(both, trees, List.of(), l.subList(1, l.size()), env);
    }

    private Step letNext(List<List<Object>> both, List<Object> trees, List<Object> values, List<Object> body, Env env) {
        int n = values.size();
        if (n < both.size()) {
            push(v -> letNext(both, trees, with(values, v), body, env));
            return evaluate(both.get(n).get(1), env);
        }
        Env local = newEnv(List.of(env));
        for (int i = 0; i < n; i++) {
            match(trees.get(i), values.get(i), local);
        }
        return sequence(body, local);
    }

    private Step cond(List<List<Object>> clauses, Env env) {
        if (clauses.isEmpty()) {
            return give(INERT);
        }
        List<Object> first = clauses.get(0);
        push(t -> truth(t) ? sequence(first.subList(1, first.size()), env)
            : cond(clauses.subList(1, clauses.size()), env));
        return evaluate(first.get(0), env);
    }

    private Step logic(List<Object> l, boolean all, Env env) {
        if (l.isEmpty()) {
            return give(all);
        }
        push(t -> truth(t) == all ? logic(l.subList(1, l.size()), all, env) : give(t));
        return evaluate(l.get(0), env);
    }

    private void nameMakers() {
        applicative("eval", 2, 2, (l, env) -> {
            need(l.get(1) instanceof Env, "eval");
            return evaluate(l.get(0), (Env) l.get(1));
        });
        answer("wrap", 1, 1, l -> {
            need(l.get(0) instanceof Combiner, "wrap");
            make(1);
            return new Applicative((Combiner) l.get(0), this);
        });
        answer("unwrap", 1, 1, l -> {
            need(l.get(0) instanceof Applicative, "unwrap");
            return ((Applicative) l.get(0)).below;
        });
        answer("make-environment", 0, ANY, l -> {
            List<Env> parents = new ArrayList<>();
            for (Object e : l) {
                need(e instanceof Env, "make-environment");
                parents.add((Env) e);
            }
            return newEnv(parents);
        });
        answer("memoize", 1, 1, l -> {
            make(1);
            Promise p = new Promise();
            p.later.value = l.get(0);
            return p;
        });
        answer("make-dynamic", 0, 0, l -> applicatives(dynamics(new Object())));
        answer("make-static", 0, 0, l -> applicatives(statics(new Object())));
        answer("make-capsule", 0, 0, l -> applicatives(capsules(new Object())));
    }

    private Object applicatives(List<Combiner> below) {
        make(1);
        make(1);
        make(below.size() - 2);
        List<Object> made = new ArrayList<>();
        below.forEach(b -> made.add(new Applicative(b, this)));
        return newList(made);
    }

    private static Combiner inner(String name, int count, Way way) {
        return (operands, env, bare) -> {
            List<Object> list = listed(operands);
            need(list != null && list.size() == count, name);
            return way.go(list, env);
        };
    }

    private List<Combiner> dynamics(Object key) {
        return List.of(inner("dynamic", 2, (l, env) -> {
            need(l.get(1) instanceof Combiner, "dynamic");
            frame = new Bound(frame, this::give, key, l.get(0));
            return () -> ((Combiner) l.get(1)).combine(NIL, env, false);
        }), inner("dynamic", 0, (l, env) -> {
            for (Frame f = frame; f != null; f = f.under) {
                if (f instanceof Bound b && b.key == key) {
                    return give(b.value);
                }
            }
            throw new Wrong("unbound: dynamic");
        }));
    }

    private List<Combiner> statics(Object key) {
        return List.of(inner("static", 2, (l, env) -> {
            need(l.get(1) instanceof Env, "static");
            Env child = newEnv(List.of((Env) l.get(1)));
            bind(child, key, l.get(0));
            return give(child);
        }), inner("static", 0, (l, env) -> {
            Object meant = env.meaning(key);
            if (meant == null) {
                throw new Wrong("unbound: static");
            }
            return give(meant);
        }));
    }

    private List<Combiner> capsules(Object key) {
        return List.of(inner("capsule", 1, (l, env) -> {
            make(1);
            return give(new Capsule(key, new Object[] {l.get(0)}));
        }), inner("capsule", 1, (l, env) -> give(l.get(0) instanceof Capsule c && c.key == key)),
            inner("capsule", 1, (l, env) -> {
                need(l.get(0) instanceof Capsule c && c.key == key, "capsule");
                return give(((Capsule) l.get(0)).value[0]);
            }));
    }

    private void nameLists() {
        answer("cons", 2, 2, l -> cons(l.get(0), l.get(1)));
        answer("car", 1, 1, l -> pair(l.get(0), "car").car);
        answer("cdr", 1, 1, l -> pair(l.get(0), "cdr").cdr);
        answer("set-car!", 2, 2, l -> {
            need(!pair(l.get(0), "set-car!").fixed, "set-car!");
            pair(l.get(0), "set-car!").car = l.get(1);
            return INERT;
        });
        answer("set-cdr!", 2, 2, l -> {
            need(!pair(l.get(0), "set-cdr!").fixed, "set-cdr!");
            pair(l.get(0), "set-cdr!").cdr = l.get(1);
            return INERT;
        });
        whole("list", 0, ANY, (l, operands, env) -> give(operands));
        answer("length", 1, 1, l -> Num.of(list(l.get(0), "length").size()));
        answer("append", 0, ANY, l -> {
            List<Object> all = new ArrayList<>();
            for (int i = 0; i < l.size() - 1; i++) {
                all.addAll(list(l.get(i), "append"));
            }
            return newList(all, l.isEmpty() ? NIL : l.get(l.size() - 1));
        });
        answer("reverse", 1, 1, l -> {
            List<Object> turned = list(l.get(0), "reverse");
            Collections.reverse(turned);
            return newList(turned);
        });
        answer("list-tail", 2, 2, l -> {
            int length = list(l.get(0), "list-tail").size();
            boolean right = l.get(1) instanceof Num n && n.whole() && n.n.signum() >= 0
                && n.n.compareTo(BigInteger.valueOf(length)) <= 0;
            need(right, "list-tail");
            Object at = l.get(0);
            for (int i = ((Num) l.get(1)).n.intValue(); i > 0; i--) {
                at = ((Pair) at).cdr;
            }
            return at;
        });
    }

    private static Pair pair(Object value, String name) {
        need(value instanceof Pair, name);
        return (Pair) value;
    }

    private static List<Object> list(Object value, String name) {
        List<Object> list = listed(value);
        need(list != null, name);
        return list;
    }

    // ---- numbers

    private static Num number(Object value, boolean whole, String name) {
        need(value instanceof Num x && (!whole || x.whole()), name);
        return (Num) value;
    }

    private static List<Num> numbers(List<Object> values, boolean whole, String name) {
        List<Num> numbers = new ArrayList<>();
        for (Object v : values) {
            numbers.add(number(v, whole, name));
        }
        return numbers;
    }

    private interface Two {
        Num of(Num x, Num y);
    }

    /** From the left, beginning with start; of two or more where none is wrong with the first one. */
    private void sum(String name, int least, boolean whole, int start, Two two) {
        answer(name, least, ANY, l -> {
            List<Num> numbers = numbers(l, whole, name);
            boolean fromFirst = least == 1 && numbers.size() > 1;
            Num sum = fromFirst ? numbers.get(0) : Num.of(start);
            for (Num x : numbers.subList(fromFirst ? 1 : 0, numbers.size())) {
                sum = two.of(sum, x).fitting();
            }
            return answered(sum);
        });
    }

    private interface One {
        Num of(Num x);
    }

    private void one(String name, One one) {
        answer(name, 1, 1, l -> answered(one.of(number(l.get(0), false, name))));
    }

    private static Num divisor(Num x) {
        if (x.n.signum() == 0) {
            throw new Wrong("divided by zero");
        }
        return x;
    }

    private static Num over(Num x, Num y) {
        divisor(y);
        return Num.of(x.n.multiply(y.d), x.d.multiply(y.n));
    }

    private static Num product(Num x, Num y) {
        return Num.of(x.n.multiply(y.n), x.d.multiply(y.d));
    }

    private static Num plus(Num x, Num y) {
        return Num.of(x.n.multiply(y.d).add(y.n.multiply(x.d)), x.d.multiply(y.d));
    }

    private static Num minus(Num x) {
        return new Num(x.n.negate(), x.d);
    }

    private static Num multiple(Num x, Num y) {
        BigInteger g = x.n.gcd(y.n);
        return Num.of(g.signum() == 0 ? g : x.n.divide(g).multiply(y.n).abs());
    }

    private static Num rounded(Num x) {
        BigInteger low = x.floor();
        int half = plus(x, Num.of(low.negate())).compare(Num.of(BigInteger.ONE, BigInteger.TWO));
        boolean up = half > 0 || half == 0 && low.testBit(0);
        return Num.of(up ? low.add(BigInteger.ONE) : low);
    }

    private static Num power(Num x, int n) {
        boolean small = x.n.abs().bitLength() <= 1 && x.whole();
        Num made = Num.of(1);
        for (int i = 0; i < (small ? Math.min(n, 2 + n % 2) : n); i++) {
            made = new Num(made.n.multiply(x.n), made.d.multiply(x.d)).fitting();
        }
        return made;
    }

    private void nameNumbers() {
        sum("+", 0, false, 0, SecondReading::plus);
        sum("*", 0, false, 1, SecondReading::product);
        sum("-", 1, false, 0, (x, y) -> plus(x, minus(y)));
        sum("/", 1, false, 1, SecondReading::over);
        sum("gcd", 0, true, 0, (x, y) -> Num.of(x.n.gcd(y.n)));
        sum("lcm", 0, true, 1, SecondReading::multiple);
        answer("div", 2, 2, l -> {
            List<Num> two = numbers(l, true, "div");
            return answered(Num.of(over(two.get(0), two.get(1)).floor()));
        });
        answer("mod", 2, 2, l -> {
            List<Num> two = numbers(l, true, "mod");
            BigInteger whole = over(two.get(0), two.get(1)).floor();
            return answered(Num.of(two.get(0).n.subtract(whole.multiply(two.get(1).n))));
        });
        one("numerator", x -> Num.of(x.n));
        one("denominator", x -> Num.of(x.d));
        one("abs", x -> new Num(x.n.abs(), x.d));
        one("floor", x -> Num.of(x.floor()));
        one("ceiling", x -> Num.of(minus(x).floor().negate()));
        one("truncate", x -> Num.of(x.n.divide(x.d)));
        one("round", SecondReading::rounded);
        answer("expt", 2, 2, l -> {
            Num x = number(l.get(0), false, "expt");
            Num n = number(l.get(1), true, "expt");
            need(n.n.signum() >= 0 && n.n.compareTo(BigInteger.valueOf(10000)) <= 0, "expt");
            return answered(power(x, n.n.intValue()));
        });
        answer("min", 1, ANY, l -> Collections.min(numbers(l, false, "min"), Num::compare));
        answer("max", 1, ANY, l -> Collections.max(numbers(l, false, "max"), Num::compare));
        order("<?", c -> c < 0);
        order("<=?", c -> c <= 0);
        order(">?", c -> c > 0);
        order(">=?", c -> c >= 0);
        order("=?", c -> c == 0);
    }

    private interface Sign {
        boolean is(int sign);
    }

    private void order(String name, Sign sign) {
        answer(name, 1, ANY, l -> {
            List<Num> numbers = numbers(l, false, name);
            boolean all = true;
            for (int i = 1; i < numbers.size(); i++) {
                all &= sign.is(numbers.get(i - 1).compare(numbers.get(i)));
            }
            return all;
        });
    }

    // ---- what is asked of values

    private interface Ask {
        boolean is(Object x);
    }

    private void ask(String name, Ask ask) {
        answer(name, 1, 1, l -> ask.is(l.get(0)));
    }

    private void nameTests() {
        ask("zero?", x -> number(x, false, "zero?").n.signum() == 0);
        ask("positive?", x -> number(x, false, "positive?").n.signum() > 0);
        ask("negative?", x -> number(x, false, "negative?").n.signum() < 0);
        ask("even?", x -> !number(x, true, "even?").n.testBit(0));
        ask("odd?", x -> number(x, true, "odd?").n.testBit(0));
        ask("not?", x -> {
            need(x instanceof Boolean, "not?");
            return !(Boolean) x;
        });
        answer("eq?", 2, 2, l -> same(l.get(0), l.get(1)));
        answer("equal?", 2, 2, l -> equal(l.get(0), l.get(1)));
        ask("null?", x -> x == NIL);
        ask("pair?", x -> x instanceof Pair);
        ask("number?", x -> x instanceof Num);
        ask("integer?", x -> x instanceof Num n && n.whole());
        ask("boolean?", x -> x instanceof Boolean);
        ask("symbol?", x -> x instanceof Sym);
        ask("string?", x -> x instanceof Str);
        ask("inert?", x -> x == INERT);
        ask("ignore?", x -> x == IGNORE);
        ask("environment?", x -> x instanceof Env);
        ask("combiner?", x -> x instanceof Combiner);
        ask("operative?", x -> x instanceof Combiner && !(x instanceof Applicative));
        ask("applicative?", x -> x instanceof Applicative);
        ask("continuation?", x -> x instanceof Continuation);
        ask("promise?", x -> x instanceof Promise);
    }

    private static boolean same(Object x, Object y) {
        return x == y || (x instanceof Num || x instanceof Boolean) && x.equals(y);
    }

    private static boolean equal(Object x, Object y) {
        ArrayDeque<Object[]> due = new ArrayDeque<>();
        due.push(new Object[] {x, y});
        for (int n = 0; !due.isEmpty(); n++) {
            need(n < 10000, "equal?");
            Object[] two = due.pop();
            if (two[0] instanceof Pair a && two[1] instanceof Pair b) {
                due.push(new Object[] {a.cdr, b.cdr});
                due.push(new Object[] {a.car, b.car});
            } else if (two[0] instanceof Str a && two[1] instanceof Str b ? !a.bytes.equals(b.bytes)
                : !same(two[0], two[1])) {
                return false;
            }
        }
        return true;
    }

    // ---- control

    private void nameControl() {
        applicative("apply", 2, 3, (l, env) -> {
            Env given = givenEnv(l, "apply");
            need(l.get(0) instanceof Applicative, "apply");
            return combineAsItStands(((Applicative) l.get(0)).below, l.get(1), given);
        });
        applicative("map", 2, ANY, (l, env) -> {
            List<Object> lists = l.subList(1, l.size());
            int rounds = list(lists.get(0), "map").size();
            for (Object m : lists) {
                need(list(m, "map").size() == rounds, "map");
            }
            need(l.get(0) instanceof Applicative, "map");
            return round(((Applicative) l.get(0)).below, lists, List.of(), rounds, env);
        });
        applicative("call/cc", 1, 1, (l, env) -> {
            need(l.get(0) instanceof Combiner, "call/cc");
            make(1);
            Object list = newList(List.of(new Continuation(frame)));
            return () -> ((Combiner) l.get(0)).combine(list, env, false);
        });
        applicative("throw", 2, 2, (l, env) -> pass(continuation(l.get(0), "throw"), l.get(1)));
        answer("continuation->applicative", 1, 1, l -> {
            Frame to = continuation(l.get(0), "continuation->applicative");
            make(1);
            return new Applicative(passer(to), this);
        });
        answer("extend-continuation", 2, 3, l -> {
            Frame to = continuation(l.get(0), "extend-continuation");
            Env given = givenEnv(l, "extend-continuation");
            need(l.get(1) instanceof Applicative, "extend-continuation");
            Combiner below = ((Applicative) l.get(1)).below;
            make(1);
            return new Continuation(new Frame(to, v -> combineAsItStands(below, v, given)));
        });
        applicative("guard-dynamic-extent", 3, 3, (l, env) -> {
            List<Clause> entries = clauses(l.get(0));
            List<Clause> exits = clauses(l.get(2));
            need(l.get(1) instanceof Combiner, "guard-dynamic-extent");
            for (Object list : List.of(l.get(0), l.get(2))) {
                spend(loose(list));
                listed(list).forEach(c -> spend(loose(c)));
            }
            frame = new Guard(frame, this::give, entries, exits);
            return () -> ((Combiner) l.get(1)).combine(NIL, env, false);
        });
        applicative("force", 1, 1, (l, env) -> l.get(0) instanceof Promise p ? force(p.later) : give(l.get(0)));
    }

    private static Env givenEnv(List<Object> l, String name) {
        need(l.size() < 3 || l.get(2) instanceof Env, name);
        return l.size() < 3 ? null : (Env) l.get(2);
    }

    private static Frame continuation(Object value, String name) {
        need(value instanceof Continuation, name);
        return ((Continuation) value).frame;
    }

    private static List<Clause> clauses(Object value) {
        String name = "guard-dynamic-extent";
        List<Clause> clauses = new ArrayList<>();
        for (Object c : list(value, name)) {
            List<Object> two = list(c, name);
            need(two.size() == 2 && two.get(1) instanceof Applicative, name);
            clauses.add(new Clause(continuation(two.get(0), name), ((Applicative) two.get(1)).below));
        }
        return clauses;
    }

    private Step round(Combiner below, List<Object> lists, List<Object> values, int rounds, Env env) {
        if (rounds == 0) {
            return give(newList(values));
        }
        List<Object> firsts = new ArrayList<>();
        List<Object> rests = new ArrayList<>();
        for (Object m : lists) {
            firsts.add(pair(m, "map").car);
            rests.add(pair(m, "map").cdr);
        }
        Object list = newList(firsts);
        push(v -> round(below, rests, with(values, v), rounds - 1, env));
        return () -> below.combine(list, env, false);
    }

    private Step force(Later promised) {
        Later p = promised.last();
        if (p.env == null) {
            return give(p.value);
        }
        push(v -> {
            Later now = p.last();
            if (now.env == null) {
                return give(now.value);
            }
            if (v instanceof Promise other) {
                Later that = other.later.last();
                now.next = that == now ? null : that;
                return force(that);
            }
            now.value = v;
            now.env = null;
            return give(v);
        });
        return evaluate(p.x, p.env);
    }

    // ---- strings and output

    private static String string(Object value, String name) {
        need(value instanceof Str, name);
        return ((Str) value).bytes;
    }

    private void nameStrings() {
        answer("string-append", 0, ANY, l -> {
            StringBuilder all = new StringBuilder();
            l.forEach(s -> all.append(string(s, "string-append")));
            need(all.length() <= 1000, "string-append");
            return newString(all.toString());
        });
        answer("string-length", 1, 1, l -> Num.of(string(l.get(0), "string-length").length()));
        answer("symbol->string", 1, 1, l -> {
            need(l.get(0) instanceof Sym, "symbol->string");
            return newString(((Sym) l.get(0)).name);
        });
        answer("string->symbol", 1, 1, l -> {
            String s = string(l.get(0), "string->symbol");
            need(s.length() >= 1 && s.length() <= 40 && s.chars().allMatch(SecondReading::inWord)
                && word(s) instanceof String, "string->symbol");
            return symbol(s);
        });
        answer("number->string", 1, 2, l -> {
            Num x = number(l.get(0), false, "number->string");
            Num radix = l.size() < 2 ? Num.of(10) : number(l.get(1), true, "number->string");
            need(radix.compare(Num.of(2)) >= 0 && radix.compare(Num.of(36)) <= 0, "number->string");
            return newString(x.text(radix.n.intValue()));
        });
        answer("string->number", 1, 1, l -> {
            Object meant = word(string(l.get(0), "string->number"));
            return meant instanceof Num x ? answered(x) : false;
        });
        answer("write", 0, ANY, l -> put(texts(l, false)));
        answer("show", 0, ANY, l -> put(texts(l, true)));
        answer("newline", 0, 0, l -> put("\n"));
        answer("error", 0, ANY, l -> {
            throw new Wrong(texts(l, true));
        });
    }

    private Object put(String bytes) {
        out.append(bytes);
        out.setLength(Math.min(4096, out.length()));
        return INERT;
    }
}
