import java.util.ArrayDeque;
import java.util.ArrayList;
import java.util.Deque;
import java.util.HashMap;
import java.util.HashSet;
import java.util.List;
import java.util.Map;
import java.util.Set;
import java.util.regex.Matcher;
import java.util.regex.Pattern;

/**
 * The document once more, written in another way than the class: tokens by a pattern, statements that execute
 * themselves, and the ways out of blocks as exceptions of Java.
 */
final class Oracle {
    static final int NONE = -9;

    // ---- ways out of a block ----

    private static class Way extends RuntimeException {
        private static final long serialVersionUID = 1L;
        final transient Object what;

        Way(Object what) {
            super(null, null, false, false);
            this.what = what;
        }
    }

    private static final class Thrown extends Way {
        private static final long serialVersionUID = 1L;

        Thrown(Failure failure) {
            super(failure);
        }

        Failure failure() {
            return (Failure) what;
        }
    }

    private static final class Returned extends Way {
        private static final long serialVersionUID = 1L;

        Returned(Integer value) {
            super(value);
        }
    }

    private static final class Left extends Way {
        private static final long serialVersionUID = 1L;

        Left(Statement loop) {
            super(loop);
        }
    }

    private static final class Nexted extends Way {
        private static final long serialVersionUID = 1L;

        Nexted(Statement loop) {
            super(loop);
        }
    }

    private static final class Spent extends RuntimeException {
        private static final long serialVersionUID = 1L;

        Spent() {
            super(null, null, false, false);
        }
    }

    private static final class Fault extends RuntimeException {
        private static final long serialVersionUID = 1L;
        final int number;
        final int place;

        Fault(int number, int place) {
            super(null, null, false, false);
            this.number = number;
            this.place = place;
        }
    }

    // ---- runs ----

    static final class Failure {
        int number;
        int kind;
        Failure cause;
        Failure owner;
        final List<Failure> suppressed = new ArrayList<>();
        final List<Integer> trace = new ArrayList<>();
        int statement;

        int property(int what) {
            switch (what) {
                case 0: return kind;
                case 1: return cause == null ? NONE : cause.number;
                case 2: return suppressed.isEmpty() ? NONE : suppressed.get(0).number;
                case 3:
                    if (owner == null) {
                        return NONE;
                    }
                    int i = owner.suppressed.indexOf(this) + 1;
                    return i < owner.suppressed.size() ? owner.suppressed.get(i).number : NONE;
                case 4: return statement;
                default: return trace.size();
            }
        }
    }

    private static final class Activation {
        final int method;
        int statement = NONE;
        final int[] variables = new int[6];
        final int[][] rows = new int[3][];
        final Deque<Failure> caught = new ArrayDeque<>();

        Activation(int method, int a, int b) {
            this.method = method;
            variables[0] = a;
            variables[1] = b;
        }
    }

    final class Run {
        int ended;
        int returned = 0;
        int ender = NONE;
        int opened = 0;
        int lost = 0;
        int deepest = 0;
        int steps = 0;
        final int limit;
        final List<int[]> plan;
        final List<Integer> tape = new ArrayList<>();
        final List<Failure> failures = new ArrayList<>();
        final List<Integer> closings = new ArrayList<>();
        final Map<Integer, Integer> entered = new HashMap<>();
        final List<int[]> passings = new ArrayList<>();
        private final Map<Integer, Integer> times = new HashMap<>();
        private final Deque<Activation> active = new ArrayDeque<>();

        Run(int method, int a, int b, List<int[]> plan, int limit) {
            this.plan = plan;
            this.limit = limit;
            try {
                returned = call(method, a, b);
                ended = 0;
            } catch (Thrown t) {
                ended = 1;
                ender = t.failure().number;
            } catch (Spent s) {
                ended = 2;
            }
        }

        int call(int method, int a, int b) {
            active.push(new Activation(method, a, b));
            deepest = Math.max(deepest, active.size());
            try {
                methods.get(method).execute(this, active.peek());
                return 0;
            } catch (Returned r) {
                return (Integer) r.what;
            } finally {
                active.pop();
            }
        }

        void step() {
            if (steps == limit) {
                throw new Spent();
            }
            steps++;
        }

        Thrown make(int kind, Failure cause) {
            Failure f = new Failure();
            f.number = failures.size();
            f.kind = kind;
            f.cause = cause;
            f.statement = active.peek().statement;
            for (Activation a : active) {
                f.trace.add(1000 * a.method + a.statement);
            }
            failures.add(f);
            return new Thrown(f);
        }

        void pass(int statement, int part) {
            int time = times.merge(10 * statement + part, 1, Integer::sum);
            passings.add(new int[] {statement, part, time});
            for (int[] entry : plan) {
                if (entry[0] == statement && entry[1] == part && entry[2] == time) {
                    throw make(entry[3], null);
                }
            }
        }

        int property(int what) {
            switch (what) {
                case 0: return ended;
                case 1: return returned;
                case 2: return ender;
                case 3: return tape.size();
                case 4: return failures.size();
                case 5: return opened;
                case 6: return closings.size();
                case 7: return lost;
                case 8: return deepest;
                default: return steps;
            }
        }

        String outcome() {
            return ended + " " + returned + " " + (ender == NONE ? NONE : failures.get(ender).kind) + " "
                    + (tape.isEmpty() ? NONE : tape.get(tape.size() - 1));
        }
    }

    // ---- the program ----

    private interface Sum {
        int value(Run r, Activation a);
    }

    private interface Action {
        void execute(Run r, Activation a);
    }

    static final class Statement {
        int number;
        boolean isMark;
        boolean isCall;
        int resources;
        boolean isGuard;
        private Block last;
        private Action action;

        boolean hasPart(int part) {
            return part == 0 ? isMark : part >= 1 && part <= 6 && (part - 1) % 3 < resources;
        }

        boolean hasFinally() {
            return last != null;
        }
    }

    private static final class Block {
        final List<Statement> statements = new ArrayList<>();

        void execute(Run r, Activation a) {
            for (Statement s : statements) {
                r.step();
                a.statement = s.number;
                s.action.execute(r, a);
            }
        }
    }

    private static final class Catch {
        int owner;
        int kind;
        int dead;
        Block block;
    }

    final List<Integer> kinds = new ArrayList<>(List.of(NONE, 0, 1, 1, 1, 1, 1));
    final List<Statement> statements = new ArrayList<>();
    final List<Block> methods = new ArrayList<>();
    final List<Catch> catches = new ArrayList<>();
    int fault = 0;
    int faultPlace = 0;

    boolean above(int upper, int kind) {
        return kind == upper || kind != NONE && above(upper, kinds.get(kind));
    }

    int handler(int i, int what) {
        Catch c = catches.get(i);
        return what == 0 ? c.owner : what == 1 ? c.kind : c.dead;
    }

    int ways(int method, int a, int b) {
        Run first = new Run(method, a, b, List.of(), 400);
        Set<String> outcomes = new HashSet<>();
        outcomes.add(first.outcome());
        for (int i = 0; i < first.passings.size() && i < 60; i++) {
            int[] p = first.passings.get(i);
            outcomes.add(new Run(method, a, b, List.of(new int[] {p[0], p[1], p[2], 0}), 400).outcome());
        }
        return outcomes.size();
    }

    // ---- reading ----

    private static final Pattern TOKENS =
            Pattern.compile("[ \n]*(?:([a-z]+(?![0-9]))|([kmvr][0-9]+)|([0-9]+)|([-+*/%()\\[\\]{}=<>,;])|$)");
    private static final Set<String> WORDS = Set.of("kind", "under", "method", "mark", "call", "row", "none",
            "return", "if", "else", "loop", "leave", "next", "throw", "wrap", "again", "guard", "with", "catch",
            "finally", "size");

    private final String text;
    private int at = 0;
    private String token;
    private char sort;
    private int place;
    private int weak = Integer.MAX_VALUE;
    private final List<Statement> loops = new ArrayList<>();
    private final List<int[]> calls = new ArrayList<>();
    private int catching = 0;

    Oracle(String text) {
        this.text = text;
        try {
            program();
            for (int[] call : calls) {
                if (call[0] >= methods.size()) {
                    weak = Math.min(weak, call[1]);
                }
            }
            if (weak < Integer.MAX_VALUE) {
                throw new Fault(3, weak);
            }
        } catch (Fault f) {
            fault = f.number;
            faultPlace = f.place;
        }
    }

    /** The sort of the token: w word, one of kmvr a name, 0 number, s sign, . the end, ? no token. */
    private void advance() {
        Matcher m = TOKENS.matcher(text);
        m.region(at, text.length());
        if (!m.lookingAt()) {
            while (at < text.length() && " \n".indexOf(text.charAt(at)) >= 0) {
                at++;
            }
            place = at;
            sort = '?';
            token = "?";
            return;
        }
        at = m.end();
        token = m.group().replaceAll("[ \n]", "");
        place = at - token.length();
        if (m.group(1) != null) {
            sort = WORDS.contains(token) ? 'w' : '?';
        } else if (m.group(2) != null) {
            sort = token.length() <= 3 ? token.charAt(0) : '?';
        } else if (m.group(3) != null) {
            sort = token.length() <= 4 ? '0' : '?';
        } else {
            sort = m.group(4) != null ? 's' : '.';
        }
    }

    private Fault wrong() {
        return new Fault(1, place);
    }

    private Fault over() {
        return new Fault(2, place);
    }

    private boolean is(String wanted) {
        return (sort == 'w' || sort == 's') && token.equals(wanted);
    }

    private boolean takes(String wanted) {
        if (is(wanted)) {
            advance();
            return true;
        }
        return false;
    }

    private void expect(String wanted) {
        if (!takes(wanted)) {
            throw wrong();
        }
    }

    private int name(char wanted, int limit) {
        if (sort != wanted) {
            throw wrong();
        }
        int n = Integer.parseInt(wanted == '0' ? token : token.substring(1));
        if (n >= limit) {
            throw over();
        }
        advance();
        return n;
    }

    private int kind() {
        int where = place;
        int k = name('k', 1000);
        if (k >= kinds.size()) {
            weak = Math.min(weak, where);
        }
        return k;
    }

    private void program() {
        advance();
        while (is("kind")) {
            if (kinds.size() == 16) {
                throw over();
            }
            advance();
            expect("under");
            int above = kind();
            // A kind that does not exist makes the text a fault anyway.
            kinds.add(above < kinds.size() ? above : 0);
            expect(";");
        }
        do {
            if (is("method") && methods.size() == 8) {
                throw over();
            }
            expect("method");
            expect("{");
            catching = 0;
            loops.clear();
            Block body = new Block();
            while (!is("}")) {
                body.statements.add(statement(0));
            }
            advance();
            methods.add(body);
        } while (is("method"));
        if (sort != '.') {
            throw wrong();
        }
    }

    private Block block(int depth) {
        if (is("{") && depth == 6) {
            throw over();
        }
        expect("{");
        Block block = new Block();
        while (!is("}")) {
            block.statements.add(statement(depth + 1));
        }
        advance();
        return block;
    }

    private Statement statement(int depth) {
        boolean begins = sort == 'v' || sort == 'r' || sort == 'w' && Set.of("mark", "call", "return", "if", "loop",
                "leave", "next", "throw", "wrap", "again", "guard", "with").contains(token);
        if (!begins) {
            throw wrong();
        }
        if (statements.size() == 80) {
            throw over();
        }
        Statement s = new Statement();
        s.number = statements.size();
        statements.add(s);
        if (sort == 'v') {
            variable(s);
        } else if (sort == 'r') {
            row(s);
        } else {
            String word = token;
            int where = place;
            advance();
            word(s, word, where, depth);
        }
        return s;
    }

    private void word(Statement s, String word, int where, int depth) {
        switch (word) {
            case "if": choice(s, depth); return;
            case "loop": loop(s, depth); return;
            case "guard": guard(s, depth); return;
            case "with":
                s.resources = name('0', 10000, where);
                guard(s, depth);
                return;
            case "mark":
                int n = name('0', 10000);
                s.isMark = true;
                s.action = (r, a) -> {
                    r.pass(s.number, 0);
                    r.tape.add(n);
                };
                break;
            case "call":
                Sum call = call(s);
                s.action = (r, a) -> call.value(r, a);
                break;
            case "return":
                Sum sum = sum(0);
                s.action = (r, a) -> {
                    throw new Returned(sum.value(r, a));
                };
                break;
            case "leave": jump(s, true); break;
            case "next": jump(s, false); break;
            case "throw":
                int kind = kind();
                s.action = (r, a) -> {
                    throw r.make(kind, null);
                };
                break;
            case "wrap":
                weakUnlessCatching(where);
                int outer = kind();
                s.action = (r, a) -> {
                    throw r.make(outer, a.caught.peek());
                };
                break;
            default:
                weakUnlessCatching(where);
                s.action = (r, a) -> {
                    throw new Thrown(a.caught.peek());
                };
                break;
        }
        expect(";");
    }

    /** The number of resources. */
    private int name(char wanted, int limit, int unused) {
        if (sort == wanted && (Integer.parseInt(token) < 1 || Integer.parseInt(token) > 3)) {
            throw over();
        }
        return name(wanted, limit);
    }

    private void weakUnlessCatching(int where) {
        if (catching == 0) {
            weak = Math.min(weak, where);
        }
    }

    private void jump(Statement s, boolean leaves) {
        int where = place;
        int k = name('0', 10000);
        if (k < 1 || k > loops.size()) {
            weak = Math.min(weak, where);
            return;
        }
        Statement loop = loops.get(loops.size() - k);
        s.action = (r, a) -> {
            if (leaves) {
                throw new Left(loop);
            }
            throw new Nexted(loop);
        };
    }

    private Sum call(Statement s) {
        s.isCall = true;
        int where = place;
        int method = name('m', 1000);
        calls.add(new int[] {method, where});
        expect("(");
        Sum first = sum(0);
        expect(",");
        Sum second = sum(0);
        expect(")");
        return (r, a) -> {
            int x = first.value(r, a);
            int y = second.value(r, a);
            if (r.active.size() == 12) {
                throw r.make(6, null);
            }
            return r.call(method, x, y);
        };
    }

    private void variable(Statement s) {
        int v = name('v', 6);
        expect("=");
        Sum sum = takes("call") ? call(s) : sum(0);
        s.action = (r, a) -> a.variables[v] = sum.value(r, a);
        expect(";");
    }

    private void row(Statement s) {
        int row = name('r', 3);
        if (takes("[")) {
            Sum index = sum(0);
            expect("]");
            expect("=");
            Sum value = sum(0);
            s.action = (r, a) -> {
                int i = index.value(r, a);
                int x = value.value(r, a);
                check(r, a.rows[row], i)[i] = x;
            };
            expect(";");
            return;
        }
        expect("=");
        if (takes("row")) {
            Sum length = sum(0);
            s.action = (r, a) -> {
                int n = length.value(r, a);
                if (n < 0 || n > 8) {
                    throw r.make(5, null);
                }
                a.rows[row] = new int[n];
            };
        } else if (takes("none")) {
            s.action = (r, a) -> a.rows[row] = null;
        } else {
            int from = name('r', 3);
            s.action = (r, a) -> a.rows[row] = a.rows[from];
        }
        expect(";");
    }

    private static int[] check(Run r, int[] array, int i) {
        if (array == null) {
            throw r.make(4, null);
        }
        if (i < 0 || i >= array.length) {
            throw r.make(3, null);
        }
        return array;
    }

    private void choice(Statement s, int depth) {
        Sum left = sum(0);
        String sign = token;
        if (!takes("=") && !takes("<")) {
            expect(">");
        }
        Sum right = sum(0);
        Block yes = block(depth);
        Block no = takes("else") ? block(depth) : new Block();
        s.action = (r, a) -> {
            int order = Integer.compare(left.value(r, a), right.value(r, a));
            boolean holds = sign.equals("=") ? order == 0 : sign.equals("<") ? order < 0 : order > 0;
            (holds ? yes : no).execute(r, a);
        };
    }

    private void loop(Statement s, int depth) {
        Sum turns = sum(0);
        loops.add(s);
        Block block = block(depth);
        loops.remove(loops.size() - 1);
        s.action = (r, a) -> {
            int n = turns.value(r, a);
            for (int i = 0; i < n; i++) {
                r.step();
                try {
                    block.execute(r, a);
                } catch (Nexted x) {
                    if (x.what != s) {
                        throw x;
                    }
                } catch (Left x) {
                    if (x.what != s) {
                        throw x;
                    }
                    return;
                }
            }
        };
    }

    private void guard(Statement s, int depth) {
        s.isGuard = true;
        Block first = block(depth);
        List<Catch> own = new ArrayList<>();
        while (takes("catch")) {
            Catch c = new Catch();
            catches.add(c);
            c.owner = s.number;
            c.kind = kind();
            for (Catch earlier : own) {
                // A kind that does not exist makes the text a fault anyway.
                if (c.kind < kinds.size() && above(earlier.kind, c.kind)) {
                    c.dead = 1;
                }
            }
            own.add(c);
            catching++;
            c.block = block(depth);
            catching--;
        }
        if (takes("finally")) {
            s.last = block(depth);
        } else if (own.isEmpty() && s.resources == 0) {
            throw wrong();
        }
        s.action = (r, a) -> finish(s, r, a, caught(s, own, r, a, held(s, first, r, a)));
    }

    /** The first block with its resources; answers the way in which it ended, null at its end. */
    private static Way held(Statement s, Block first, Run r, Activation a) {
        Deque<Integer> open = new ArrayDeque<>();
        Way way = null;
        try {
            for (int k = 0; k < s.resources; k++) {
                r.step();
                r.pass(s.number, 1 + k);
                open.push(r.opened++);
            }
            first.execute(r, a);
        } catch (Way w) {
            way = w;
        }
        while (!open.isEmpty()) {
            r.step();
            a.statement = s.number;
            r.closings.add(open.pop());
            try {
                r.pass(s.number, 4 + open.size());
            } catch (Thrown t) {
                if (way instanceof Thrown) {
                    Failure under = ((Thrown) way).failure();
                    under.suppressed.add(t.failure());
                    t.failure().owner = under;
                } else {
                    way = t;
                }
            }
        }
        return way;
    }

    private Way caught(Statement s, List<Catch> own, Run r, Activation a, Way way) {
        if (!(way instanceof Thrown)) {
            return way;
        }
        Failure failure = ((Thrown) way).failure();
        for (Catch c : own) {
            if (above(c.kind, failure.kind)) {
                a.caught.push(failure);
                try {
                    c.block.execute(r, a);
                    return null;
                } catch (Way w) {
                    return w;
                } finally {
                    a.caught.pop();
                }
            }
        }
        return way;
    }

    private static void finish(Statement s, Run r, Activation a, Way way) {
        if (s.last != null) {
            r.entered.merge(s.number, 1, Integer::sum);
            try {
                s.last.execute(r, a);
            } catch (Way w) {
                if (way instanceof Thrown) {
                    r.lost++;
                }
                throw w;
            }
        }
        if (way != null) {
            throw way;
        }
    }

    private Sum sum(int nested) {
        Sum left = term(nested);
        while (is("+") || is("-")) {
            boolean adds = is("+");
            advance();
            Sum x = left;
            Sum y = term(nested);
            left = (r, a) -> {
                int p = x.value(r, a);
                int q = y.value(r, a);
                return adds ? p + q : p - q;
            };
        }
        return left;
    }

    private Sum term(int nested) {
        Sum left = factor(nested);
        while (is("*") || is("/") || is("%")) {
            char sign = token.charAt(0);
            advance();
            Sum x = left;
            Sum y = factor(nested);
            left = (r, a) -> {
                int p = x.value(r, a);
                int q = y.value(r, a);
                if (sign == '*') {
                    return p * q;
                }
                if (q == 0) {
                    throw r.make(2, null);
                }
                return sign == '/' ? p / q : p % q;
            };
        }
        return left;
    }

    private void level(int nested) {
        if (nested == 8) {
            throw over();
        }
        advance();
    }

    private Sum factor(int nested) {
        if (sort == '0') {
            int n = name('0', 10000);
            return (r, a) -> n;
        }
        if (sort == 'v') {
            int v = name('v', 6);
            return (r, a) -> a.variables[v];
        }
        if (sort == 'r') {
            int row = name('r', 3);
            if (!is("[")) {
                throw wrong();
            }
            level(nested);
            Sum index = sum(nested + 1);
            expect("]");
            return (r, a) -> {
                int i = index.value(r, a);
                return check(r, a.rows[row], i)[i];
            };
        }
        if (is("-")) {
            level(nested);
            Sum x = factor(nested + 1);
            return (r, a) -> -x.value(r, a);
        }
        if (is("(")) {
            level(nested);
            Sum x = sum(nested + 1);
            expect(")");
            return x;
        }
        if (is("size")) {
            level(nested);
            int row = name('r', 3);
            return (r, a) -> {
                if (a.rows[row] == null) {
                    throw r.make(4, null);
                }
                return a.rows[row].length;
            };
        }
        throw wrong();
    }
}
