/**
 * An interpreter for a small programming language with exceptions. A program is read from a text and is run
 * as code with tables of handlers, or as a tree that is walked.
 */
public final class WaysAtlas {
    public static final int BAD = -1, FULL = -2, NONE = -9;
    public static final int RETURNED = 0, THROWN = 1, SPENT = 2;

    private static final int MOST_BYTES = 1000, MOST_STATEMENTS = 80, MOST_METHODS = 8, MOST_KINDS = 16;
    private static final int MOST_BLOCKS = 6, MOST_LEVELS_OF_A_SUM = 8, MOST_RESOURCES = 3;
    private static final int MOST_ACTIVE = 12, MOST_STEPS = 400, MOST_LENGTH = 8;
    private static final int MOST_PLANNED = 30, MOST_TIME = 400, MOST_PASSINGS = 60, PARTS = 7;
    private static final int ALL_VARIABLES = 6, ALL_ROWS = 3, FIRST_KINDS = 7;
    // A catch takes 9 bytes at least: catchk0{}
    private static final int MOST_CATCHES = 112;
    // Far above what a run of 400 steps and 1000 bytes of text can need.
    private static final int MOST_TURNS = 1000000;
    // A sum's lists, factors and brackets make at most 27 levels of its tree.
    private static final int MOST_DEPTH_OF_A_SUM = 40;

    // Kinds that the language itself throws.
    private static final int KIND_ZERO = 2, KIND_INDEX = 3, KIND_NULL = 4, KIND_SIZE = 5, KIND_DEEP = 6;

    // Tokens. A sign is its own number, a word its place in WORDS behind WORD.
    private static final int END = 0, BROKEN = 1, NUMBER = 2;
    private static final int NAME = 3, KIND_NAME = 3, METHOD_NAME = 4, VARIABLE_NAME = 5, ROW_NAME = 6;
    private static final String NAMES = "kmvr";
    private static final String SIGNS = "+-*/%()[]{}=<>,;";
    private static final String WORDS = "kind under method mark call row none return if else loop leave next throw wrap again guard with catch finally size ";
    private static final int WORD = 128, KIND_WORD = 128, UNDER_WORD = 129, METHOD_WORD = 130, MARK_WORD = 131,
            CALL_WORD = 132, ROW_WORD = 133, NONE_WORD = 134, RETURN_WORD = 135, IF_WORD = 136, ELSE_WORD = 137,
            LOOP_WORD = 138, LEAVE_WORD = 139, NEXT_WORD = 140, THROW_WORD = 141, WRAP_WORD = 142,
            AGAIN_WORD = 143, GUARD_WORD = 144, WITH_WORD = 145, CATCH_WORD = 146, FINALLY_WORD = 147,
            SIZE_WORD = 148;
    private static final int TOKEN = 0, VALUE = 1, PLACE = 2;

    // Types of statements. A guard is a with that has no resources.
    private static final int DO_MARK = 0, DO_CALL = 1, DO_SET = 2, DO_NEW = 3, DO_NO_ROW = 4, DO_COPY = 5,
            DO_STORE = 6, DO_RETURN = 7, DO_IF = 8, DO_LOOP = 9, DO_LEAVE = 10, DO_NEXT = 11, DO_THROW = 12,
            DO_WRAP = 13, DO_AGAIN = 14, DO_GUARD = 15;
    // Columns of a statement; what A and B say depends on its type.
    private static final int TYPE = 0, A = 1, B = 2, FIRST_SUM = 3, SECOND_SUM = 4, BLOCK = 5, OTHER_BLOCK = 6,
            HAS_FINALLY = 7, NEXT = 8, LEVEL = 9, INSIDE = 10, CATCHES = 11, STATEMENT_WIDTH = 12;
    // Columns of a catch.
    private static final int OWNER = 0, KIND = 1, DEAD = 2, CATCH_BLOCK = 3, NEXT_CATCH = 4, CATCH_WIDTH = 5;
    // Columns of a method.
    private static final int METHOD_BLOCK = 0, METHOD_ENTRY = 1;
    // Types and columns of a node of a sum.
    private static final int A_NUMBER = 0, A_VARIABLE = 1, AN_ELEMENT = 2, A_SIZE = 3, A_MINUS = 4, A_LIST = 5;
    private static final int NODE_TYPE = 0, NODE_VALUE = 1, CHILD = 2, NEXT_NODE = 3, JOIN = 4, NODE_WIDTH = 5;

    // Columns of an exception; the first six are in the order in which failure() names them.
    private static final int FAILED_KIND = 0, CAUSE = 1, FIRST_SUPPRESSED = 2, NEXT_SUPPRESSED = 3,
            FAILED_STATEMENT = 4, FAILED_DEPTH = 5, FAILED_ACTIVATION = 6, FAILURE_WIDTH = 7;
    // Columns of an activation that a record keeps for the traces.
    private static final int CALLER = 0, CALLED_METHOD = 1, CALLED_FROM = 2;
    // Columns of an activation while it is executed.
    private static final int NOW_STATEMENT = 0, NOW_ID = 1, NOW_PLACE = 2, NOW_VARIABLES = 3, NOW_ROWS = 9,
            NOW_WIDTH = 12;
    // What an activation keeps for each level of its blocks.
    private static final int TURNS_LEFT = 0, CAUGHT = 1, PENDING = 2, PENDING_WAY = 3, BACK = 4, KEPT = 5,
            PHASE = 6, OPENED = 7, RESOURCES = 8, SLOT_WIDTH = 11;
    // Columns of an entry of the plan, and of a passing.
    private static final int AT_STATEMENT = 0, AT_PART = 1, AT_TIME = 2, PLANNED_KIND = 3;

    // The code: first what sums need, then data, then the flow, then exceptions.
    private static final int PUSH = 0, PUSH_VARIABLE = 1, PUSH_ELEMENT = 2, PUSH_SIZE = 3, NEGATE = 4, APPLY = 5;
    private static final int FIRST_DATA = 6, BEGIN = 6, APPEND = 7, SET = 8, DROP = 9, NEW_ROW = 10, NO_ROW = 11,
            COPY_ROW = 12, STORE = 13;
    private static final int FIRST_FLOW = 14, TEST = 14, GO = 15, SET_TURNS = 16, TURN = 17, CALL = 18,
            GIVE_BACK = 19, SUBROUTINE = 20, GO_BACK = 21, KEEP = 22, UNKEEP = 23;
    private static final int FIRST_FAILING = 24, RAISE = 24, RAISE_WRAP = 25, RAISE_CAUGHT = 26,
            RAISE_PENDING = 27, CATCH = 28, PEND = 29, CALM = 30, FINISH = 31, LOSE = 32, REPLACE = 33,
            OPEN = 34, CLOSE = 35, CLOSE_UNDER = 36;
    // Columns of an instruction and of a handler.
    private static final int OP = 0, X = 1, Y = 2, HANDLER = 3, CODE_WIDTH = 4;
    private static final int HANDLED_KIND = 0, TARGET = 1, OUTER = 2;
    // With one shared block for each finally, 1000 bytes make less than 4000 instructions and 350 handlers.
    private static final int MOST_CODE = 4500, MOST_HANDLERS = 500;
    // Each level of a sum waits with two numbers at most.
    private static final int MOST_STACK = 64;

    private final Table text;
    private final Scanner scanner;
    private final Reader reader;
    private final Coder coder;
    private final World world;
    private final Walker walker;
    private final Machine machine;
    private final Table plan;
    private final Table alone;
    private final Table outcomes;
    private final RunRecord codeRun;
    private final RunRecord treeRun;
    private final RunRecord trial;
    private final RunRecord secondTrial;
    private Program present;
    private Program spare;
    private int fault;

    public WaysAtlas() {
        text = new Table(MOST_BYTES, 1);
        scanner = new Scanner();
        present = new Program();
        spare = new Program();
        reader = new Reader(scanner.tokens, spare);
        coder = new Coder(present);
        plan = new Table(MOST_PLANNED, 4);
        alone = new Table(1, 4);
        outcomes = new Table(MOST_PASSINGS + 1, 4);
        codeRun = new RunRecord();
        treeRun = new RunRecord();
        trial = new RunRecord();
        secondTrial = new RunRecord();
        world = new World(present, plan, codeRun);
        walker = new Walker(world);
        machine = new Machine(world, coder.code, coder.handlers);
        fault = 0;
    }

    public int say(long bytes, int n) {
        if (n < 1 || n > 8) {
            return BAD;
        }
        if (text.rows + n > MOST_BYTES) {
            return FULL;
        }
        for (int i = n - 1; i >= 0; i--) {
            text.set(text.add(), 0, (int) (bytes >>> (8 * i)) & 255);
        }
        return text.rows;
    }

    public int compile(boolean shared) {
        scanner.scan(text);
        text.reset();
        reader.read(spare);
        fault = reader.fault;
        if (fault != 0) {
            return -100 - reader.faultPlace;
        }
        Program old = present;
        present = spare;
        spare = old;
        coder.translate(present, shared);
        plan.reset();
        codeRun.ended = NONE;
        treeRun.ended = NONE;
        return present.statements.rows;
    }

    public int fault() {
        return fault;
    }

    public int count(int what) {
        if (what == 4) {
            return plan.rows;
        }
        if (present.methods.rows == 0) {
            return BAD;
        }
        switch (what) {
            case 0: return present.statements.rows;
            case 1: return present.methods.rows;
            case 2: return present.kinds.rows;
            case 3: return present.catches.rows;
            default: return BAD;
        }
    }

    public int plan(int statement, int part, int time, int kind) {
        if (!present.hasPart(statement, part) || time < 1 || time > MOST_TIME
                || kind < 0 || kind >= present.kinds.rows) {
            return BAD;
        }
        int entry = plan.add();
        if (entry == NONE) {
            return FULL;
        }
        plan.set(entry, AT_STATEMENT, statement);
        plan.set(entry, AT_PART, part);
        plan.set(entry, AT_TIME, time);
        plan.set(entry, PLANNED_KIND, kind);
        return plan.rows;
    }

    public int clear() {
        int entries = plan.rows;
        plan.reset();
        return entries;
    }

    public int run(boolean tree, int method, int a, int b, int steps) {
        if (isNoMethod(method) || steps < 0 || steps > MOST_STEPS) {
            return BAD;
        }
        return perform(tree, tree ? treeRun : codeRun, plan, method, a, b, steps);
    }

    public int ran(int which, int what) {
        if (isNoRun(which) || what < 0 || what > 9) {
            return BAD;
        }
        return chosen(which).property(what);
    }

    public int mark(int which, int i) {
        return isNoRun(which) ? BAD : chosen(which).tape.get(i, 0);
    }

    public int failure(int which, int i, int what) {
        if (isNoRun(which) || what < 0 || what > 5) {
            return BAD;
        }
        return chosen(which).failures.get(i, what);
    }

    public int trace(int which, int i, int k) {
        return isNoRun(which) ? BAD : chosen(which).traced(i, k);
    }

    public int closed(int which, int i) {
        return isNoRun(which) ? BAD : chosen(which).closings.get(i, 0);
    }

    public int entered(int which, int statement) {
        if (isNoRun(which) || present.statements.get(statement, HAS_FINALLY) != 1) {
            return BAD;
        }
        return chosen(which).entries.get(statement, 0);
    }

    public int handler(int i, int what) {
        if (i < 0 || i >= present.catches.rows || what < 0 || what > 2) {
            return BAD;
        }
        return present.catches.get(i, what);
    }

    public int ways(int method, int a, int b) {
        if (isNoMethod(method)) {
            return BAD;
        }
        alone.reset();
        outcomes.reset();
        world.passings.reset();
        world.notesPassings = true;
        perform(false, trial, alone, method, a, b, MOST_STEPS);
        world.notesPassings = false;
        noteOutcome();
        for (int i = 0; i < world.passings.rows; i++) {
            planAlone(i);
            perform(false, trial, alone, method, a, b, MOST_STEPS);
            noteOutcome();
        }
        return outcomes.rows;
    }

    public int same(int method, int a, int b) {
        if (isNoMethod(method)) {
            return BAD;
        }
        perform(false, trial, plan, method, a, b, MOST_STEPS);
        perform(true, secondTrial, plan, method, a, b, MOST_STEPS);
        return trial.agrees(secondTrial) ? 1 : 0;
    }

    private boolean isNoMethod(int method) {
        return method < 0 || method >= present.methods.rows;
    }

    private boolean isNoRun(int which) {
        return which < 0 || which > 1 || chosen(which).ended == NONE;
    }

    private RunRecord chosen(int which) {
        return which == 1 ? treeRun : codeRun;
    }

    private int perform(boolean tree, RunRecord record, Table entries, int method, int a, int b, int steps) {
        world.prepare(present, entries, record, steps);
        if (tree) {
            walker.walk(method, a, b);
        } else {
            machine.work(method, a, b);
        }
        return record.ended;
    }

    private void planAlone(int passing) {
        alone.reset();
        int entry = alone.add();
        for (int i = AT_STATEMENT; i <= AT_TIME; i++) {
            alone.set(entry, i, world.passings.get(passing, i));
        }
        alone.set(entry, PLANNED_KIND, 0);
    }

    private void noteOutcome() {
        int kind = trial.failures.get(trial.ender, FAILED_KIND);
        int last = trial.tape.get(trial.tape.rows - 1, 0);
        for (int i = 0; i < outcomes.rows; i++) {
            if (outcomes.get(i, 0) == trial.ended && outcomes.get(i, 1) == trial.returned
                    && outcomes.get(i, 2) == kind && outcomes.get(i, 3) == last) {
                return;
            }
        }
        int outcome = outcomes.add();
        outcomes.set(outcome, 0, trial.ended);
        outcomes.set(outcome, 1, trial.returned);
        outcomes.set(outcome, 2, kind);
        outcomes.set(outcome, 3, last);
    }

    /** Rows of numbers; all indices of the program's data are tested here. */
    private static final class Table {
        private final int[] cells;
        private final int width;
        private final int most;
        int rows;

        Table(int most, int width) {
            this.most = Math.max(0, most);
            this.width = Math.max(1, width);
            cells = new int[Math.max(0, this.most * this.width)];
            rows = 0;
        }

        int get(int row, int column) {
            if (row < 0 || row >= rows || column < 0 || column >= width) {
                return NONE;
            }
            int i = row * width + column;
            return i >= 0 && i < cells.length ? cells[i] : NONE;
        }

        void set(int row, int column, int value) {
            if (row < 0 || row >= rows || column < 0 || column >= width) {
                return;
            }
            int i = row * width + column;
            if (i >= 0 && i < cells.length) {
                cells[i] = value;
            }
        }

        /** A new row of NONE; answers its number, or NONE if there is no room. */
        int add() {
            if (rows >= most) {
                return NONE;
            }
            rows++;
            for (int i = (rows - 1) * width; i < rows * width; i++) {
                if (i >= 0 && i < cells.length) {
                    cells[i] = NONE;
                }
            }
            return rows - 1;
        }

        void drop() {
            if (rows > 0) {
                rows--;
            }
        }

        void reset() {
            rows = 0;
        }

        boolean equalIn(Table other, int columns) {
            if (rows != other.rows) {
                return false;
            }
            for (int row = 0; row < rows; row++) {
                for (int column = 0; column < columns; column++) {
                    if (get(row, column) != other.get(row, column)) {
                        return false;
                    }
                }
            }
            return true;
        }

        void fill(int count, int value) {
            rows = Math.max(0, Math.min(count, most));
            for (int i = 0; i < rows * width && i < cells.length; i++) {
                cells[i] = value;
            }
        }
    }

    /** Cuts a text into tokens. */
    private static final class Scanner {
        final Table tokens;
        private int at;

        Scanner() {
            tokens = new Table(MOST_BYTES + 1, 3);
            at = 0;
        }

        /** The last token is END, at the text's length. */
        void scan(Table text) {
            tokens.reset();
            at = 0;
            for (int i = 0; i <= MOST_BYTES && at < text.rows; i++) {
                int sign = text.get(at, 0);
                if (sign == 32 || sign == 10) {
                    at++;
                } else if (isDigit(sign)) {
                    number(text);
                } else if (isLetter(sign)) {
                    letters(text);
                } else {
                    note(SIGNS.indexOf((char) sign) >= 0 ? sign : BROKEN, 0, at);
                    at++;
                }
            }
            note(END, 0, text.rows);
        }

        private void note(int token, int value, int place) {
            int i = tokens.add();
            tokens.set(i, TOKEN, token);
            tokens.set(i, VALUE, value);
            tokens.set(i, PLACE, place);
        }

        private void number(Table text) {
            int end = endOfDigits(text, at);
            boolean fits = end - at <= 4;
            note(fits ? NUMBER : BROKEN, fits ? valueOf(text, at, end) : 0, at);
            at = end;
        }

        private void letters(Table text) {
            int end = at;
            while (end < text.rows && isLetter(text.get(end, 0))) {
                end++;
            }
            // The letter right before a digit belongs to a name, not to the word.
            if (isDigit(text.get(end, 0))) {
                end--;
            }
            if (end <= at) {
                name(text);
            } else {
                int word = wordNumber(text, at, end);
                note(word == NONE ? BROKEN : WORD + word, 0, at);
                at = end;
            }
        }

        private void name(Table text) {
            int letter = NAMES.indexOf((char) text.get(at, 0));
            int end = endOfDigits(text, at + 1);
            boolean fits = letter >= 0 && end - at <= 3;
            note(fits ? NAME + letter : BROKEN, fits ? valueOf(text, at + 1, end) : 0, at);
            at = end;
        }

        private static boolean isDigit(int sign) {
            return sign >= '0' && sign <= '9';
        }

        private static boolean isLetter(int sign) {
            return sign >= 'a' && sign <= 'z';
        }

        private static int endOfDigits(Table text, int from) {
            int end = from;
            while (end < text.rows && isDigit(text.get(end, 0))) {
                end++;
            }
            return end;
        }

        private static int valueOf(Table text, int from, int to) {
            int value = 0;
            for (int i = from; i < to; i++) {
                value = 10 * value + text.get(i, 0) - '0';
            }
            return value;
        }

        private static int wordNumber(Table text, int from, int to) {
            int number = 0;
            int start = 0;
            for (int i = 0; i < WORDS.length(); i++) {
                if (WORDS.charAt(i) == ' ') {
                    if (i - start == to - from && spells(text, from, start, i)) {
                        return number;
                    }
                    number++;
                    start = i + 1;
                }
            }
            return NONE;
        }

        private static boolean spells(Table text, int from, int start, int end) {
            for (int i = start; i < end && i >= 0 && i < WORDS.length(); i++) {
                if (WORDS.charAt(i) != text.get(from + i - start, 0)) {
                    return false;
                }
            }
            return true;
        }
    }

    /** A program as a tree. */
    private static final class Program {
        final Table statements;
        final Table nodes;
        final Table catches;
        final Table kinds;
        final Table methods;

        Program() {
            statements = new Table(MOST_STATEMENTS, STATEMENT_WIDTH);
            // Each node has a byte of the text of its own: a factor's first one, or an operator.
            nodes = new Table(MOST_BYTES, NODE_WIDTH);
            catches = new Table(MOST_CATCHES, CATCH_WIDTH);
            kinds = new Table(MOST_KINDS, 1);
            methods = new Table(MOST_METHODS, 2);
        }

        void reset() {
            statements.reset();
            nodes.reset();
            catches.reset();
            methods.reset();
            kinds.reset();
            for (int i = 0; i < FIRST_KINDS; i++) {
                int kind = kinds.add();
                kinds.set(kind, 0, i == 0 ? NONE : i == 1 ? 0 : 1);
            }
        }

        boolean covers(int above, int kind) {
            int k = kind;
            for (int i = 0; i < MOST_KINDS && k != NONE; i++) {
                if (k == above) {
                    return true;
                }
                k = kinds.get(k, 0);
            }
            return false;
        }

        /** The first catch of the statement that takes this kind. */
        int catchOf(int statement, int kind) {
            int c = statements.get(statement, CATCHES);
            for (int i = 0; i < MOST_CATCHES && c != NONE; i++) {
                if (covers(catches.get(c, KIND), kind)) {
                    return c;
                }
                c = catches.get(c, NEXT_CATCH);
            }
            return NONE;
        }

        boolean hasPart(int statement, int part) {
            int type = statements.get(statement, TYPE);
            if (part == 0) {
                return type == DO_MARK;
            }
            int resource = part > MOST_RESOURCES ? part - MOST_RESOURCES : part;
            return type == DO_GUARD && resource >= 1 && resource <= statements.get(statement, A);
        }
    }

    /** Reads tokens as a program. */
    private static final class Reader {
        private final Table tokens;
        private final Table loops;
        private final Table caughtLevels;
        private final Table callPlaces;
        private Program program;
        private int at;
        private int token;
        private int value;
        private int place;
        private int lesserPlace;
        int fault;
        int faultPlace;

        Reader(Table tokens, Program program) {
            this.tokens = tokens;
            this.program = program;
            loops = new Table(MOST_BLOCKS, 1);
            caughtLevels = new Table(MOST_BLOCKS, 1);
            callPlaces = new Table(MOST_STATEMENTS, 1);
            lesserPlace = NONE;
        }

        void read(Program target) {
            start(target);
            for (int i = 0; i <= MOST_KINDS && token == KIND_WORD; i++) {
                readKind();
            }
            boolean more = true;
            for (int i = 0; i <= MOST_METHODS && more; i++) {
                int method = beginMethod();
                program.methods.set(method, METHOD_BLOCK, readStatements(NONE, 0));
                expect('}');
                more = token == METHOD_WORD;
            }
            if (token != END) {
                fail(1);
            }
            checkCalls();
            if (fault == 0 && lesserPlace != NONE) {
                fault = 3;
                faultPlace = lesserPlace;
            }
        }

        private void start(Program target) {
            program = target;
            program.reset();
            callPlaces.fill(MOST_STATEMENTS, NONE);
            fault = 0;
            faultPlace = 0;
            lesserPlace = NONE;
            at = -1;
            advance();
        }

        private void advance() {
            // After a fault nothing more is read: BROKEN stands nowhere.
            if (fault != 0) {
                token = BROKEN;
                return;
            }
            at++;
            token = tokens.get(at, TOKEN);
            value = tokens.get(at, VALUE);
            place = tokens.get(at, PLACE);
        }

        private void fail(int number) {
            if (fault == 0) {
                fault = number;
                faultPlace = place;
            }
            token = BROKEN;
        }

        private void failLesser(int where) {
            if (lesserPlace == NONE || where < lesserPlace) {
                lesserPlace = where;
            }
        }

        private void expect(int wanted) {
            if (token == wanted) {
                advance();
            } else {
                fail(1);
            }
        }

        private void readKind() {
            if (program.kinds.rows >= MOST_KINDS) {
                fail(2);
                return;
            }
            advance();
            expect(UNDER_WORD);
            int above = readKindName();
            program.kinds.set(program.kinds.add(), 0, above);
            expect(';');
        }

        private int readKindName() {
            int kind = value;
            if (token == KIND_NAME && kind >= program.kinds.rows) {
                failLesser(place);
            }
            expect(KIND_NAME);
            return kind;
        }

        private int beginMethod() {
            if (token == METHOD_WORD && program.methods.rows >= MOST_METHODS) {
                fail(2);
            }
            expect(METHOD_WORD);
            expect('{');
            loops.reset();
            caughtLevels.reset();
            return program.methods.add();
        }

        /** Methods may be called before they are declared. */
        private void checkCalls() {
            for (int s = 0; s < program.statements.rows; s++) {
                if (program.statements.get(s, TYPE) == DO_CALL
                        && program.statements.get(s, A) >= program.methods.rows) {
                    failLesser(callPlaces.get(s, 0));
                }
            }
        }

        /** Answers the first statement, or NONE. */
        private int readStatements(int inside, int level) {
            int first = NONE;
            int last = NONE;
            for (int i = 0; i <= MOST_STATEMENTS && fault == 0 && token != '}'; i++) {
                int s = readStatement(inside, level);
                if (i == 0) {
                    first = s;
                } else {
                    program.statements.set(last, NEXT, s);
                }
                last = s;
            }
            return first;
        }

        private int readStatement(int inside, int level) {
            if (!beginsStatement(token)) {
                fail(1);
                return NONE;
            }
            if (program.statements.rows >= MOST_STATEMENTS || isNoVariable() || isNoRow()) {
                fail(2);
                return NONE;
            }
            int s = program.statements.add();
            program.statements.set(s, INSIDE, inside);
            program.statements.set(s, LEVEL, level);
            switch (token) {
                case IF_WORD: readIf(s, level); return s;
                case LOOP_WORD: readLoop(s, level); return s;
                case GUARD_WORD: readGuard(s, level); return s;
                case WITH_WORD: readGuard(s, level); return s;
                case VARIABLE_NAME:
                    int variable = value;
                    advance();
                    expect('=');
                    if (token == CALL_WORD) {
                        readCall(s, variable);
                    } else {
                        readSet(s, variable);
                    }
                    break;
                case ROW_NAME: readRow(s); break;
                case CALL_WORD: readCall(s, NONE); break;
                case LEAVE_WORD: readJump(s, DO_LEAVE); break;
                case NEXT_WORD: readJump(s, DO_NEXT); break;
                case MARK_WORD: readMark(s); break;
                case RETURN_WORD: readReturn(s); break;
                case THROW_WORD: readThrow(s, DO_THROW); break;
                case WRAP_WORD: readThrow(s, DO_WRAP); break;
                default: readThrow(s, DO_AGAIN); break;
            }
            expect(';');
            return s;
        }

        private static boolean beginsStatement(int token) {
            return token == VARIABLE_NAME || token == ROW_NAME || token == MARK_WORD || token == CALL_WORD
                    || token == RETURN_WORD || token == IF_WORD || token == GUARD_WORD || token == WITH_WORD
                    || token >= LOOP_WORD && token <= AGAIN_WORD;
        }

        private boolean isNoVariable() {
            return token == VARIABLE_NAME && value >= ALL_VARIABLES;
        }

        private boolean isNoRow() {
            return token == ROW_NAME && value >= ALL_ROWS;
        }

        private int readBlock(int inside, int level) {
            if (token == '{' && level >= MOST_BLOCKS) {
                fail(2);
                return NONE;
            }
            expect('{');
            int first = fault == 0 ? readStatements(inside, level + 1) : NONE;
            expect('}');
            return first;
        }

        private void readIf(int s, int level) {
            program.statements.set(s, TYPE, DO_IF);
            advance();
            program.statements.set(s, FIRST_SUM, readList(0, true));
            program.statements.set(s, A, token);
            if (token == '=' || token == '<' || token == '>') {
                advance();
            } else {
                fail(1);
            }
            program.statements.set(s, SECOND_SUM, readList(0, true));
            program.statements.set(s, BLOCK, readBlock(s, level));
            if (token == ELSE_WORD) {
                advance();
                program.statements.set(s, OTHER_BLOCK, readBlock(s, level));
            }
        }

        private void readLoop(int s, int level) {
            program.statements.set(s, TYPE, DO_LOOP);
            advance();
            program.statements.set(s, FIRST_SUM, readList(0, true));
            int loop = loops.add();
            loops.set(loop, 0, s);
            program.statements.set(s, BLOCK, readBlock(s, level));
            if (loop != NONE) {
                loops.drop();
            }
        }

        private void readGuard(int s, int level) {
            program.statements.set(s, TYPE, DO_GUARD);
            boolean opens = token == WITH_WORD;
            advance();
            program.statements.set(s, A, opens ? readResources() : 0);
            program.statements.set(s, BLOCK, readBlock(s, level));
            int last = NONE;
            for (int i = 0; i < MOST_CATCHES && token == CATCH_WORD; i++) {
                last = readCatch(s, level, last);
            }
            if (token == FINALLY_WORD) {
                advance();
                program.statements.set(s, HAS_FINALLY, 1);
                program.statements.set(s, OTHER_BLOCK, readBlock(s, level));
            } else if (!opens && last == NONE) {
                fail(1);
            }
        }

        private int readResources() {
            int n = value;
            if (token == NUMBER && (n < 1 || n > MOST_RESOURCES)) {
                fail(2);
            }
            expect(NUMBER);
            return n;
        }

        /** The catch is numbered before its block is read, as the words stand in the text. */
        private int readCatch(int s, int level, int last) {
            int c = program.catches.add();
            advance();
            int kind = readKindName();
            program.catches.set(c, OWNER, s);
            program.catches.set(c, DEAD, program.catchOf(s, kind) == NONE ? 0 : 1);
            program.catches.set(c, KIND, kind);
            if (last == NONE) {
                program.statements.set(s, CATCHES, c);
            } else {
                program.catches.set(last, NEXT_CATCH, c);
            }
            int caught = caughtLevels.add();
            caughtLevels.set(caught, 0, level);
            program.catches.set(c, CATCH_BLOCK, readBlock(s, level));
            if (caught != NONE) {
                caughtLevels.drop();
            }
            return c;
        }

        private void readMark(int s) {
            program.statements.set(s, TYPE, DO_MARK);
            advance();
            program.statements.set(s, A, value);
            expect(NUMBER);
        }

        private void readReturn(int s) {
            program.statements.set(s, TYPE, DO_RETURN);
            advance();
            program.statements.set(s, FIRST_SUM, readList(0, true));
        }

        private void readThrow(int s, int type) {
            if (type != DO_THROW && caughtLevels.rows == 0) {
                failLesser(place);
            }
            program.statements.set(s, TYPE, type);
            program.statements.set(s, B, caughtLevels.get(caughtLevels.rows - 1, 0));
            advance();
            if (type != DO_AGAIN) {
                program.statements.set(s, A, readKindName());
            }
        }

        private void readJump(int s, int type) {
            program.statements.set(s, TYPE, type);
            advance();
            if (token == NUMBER && (value < 1 || value > loops.rows)) {
                failLesser(place);
            }
            program.statements.set(s, A, loops.get(loops.rows - value, 0));
            expect(NUMBER);
        }

        private void readCall(int s, int variable) {
            program.statements.set(s, TYPE, DO_CALL);
            program.statements.set(s, B, variable);
            advance();
            program.statements.set(s, A, value);
            callPlaces.set(s, 0, place);
            expect(METHOD_NAME);
            expect('(');
            program.statements.set(s, FIRST_SUM, readList(0, true));
            expect(',');
            program.statements.set(s, SECOND_SUM, readList(0, true));
            expect(')');
        }

        private void readSet(int s, int variable) {
            program.statements.set(s, TYPE, DO_SET);
            program.statements.set(s, A, variable);
            program.statements.set(s, FIRST_SUM, readList(0, true));
        }

        private void readRow(int s) {
            Table statements = program.statements;
            statements.set(s, A, value);
            advance();
            if (token == '[') {
                statements.set(s, TYPE, DO_STORE);
                advance();
                statements.set(s, FIRST_SUM, readList(0, true));
                expect(']');
                expect('=');
                statements.set(s, SECOND_SUM, readList(0, true));
                return;
            }
            expect('=');
            if (token == ROW_WORD) {
                statements.set(s, TYPE, DO_NEW);
                advance();
                statements.set(s, FIRST_SUM, readList(0, true));
            } else if (token == NONE_WORD) {
                statements.set(s, TYPE, DO_NO_ROW);
                advance();
            } else {
                statements.set(s, TYPE, DO_COPY);
                statements.set(s, B, readRowName());
            }
        }

        private int readRowName() {
            int row = value;
            if (isNoRow()) {
                fail(2);
            } else if (token != ROW_NAME) {
                fail(1);
            } else {
                advance();
            }
            return row;
        }

        /** A sum is a list of terms, a term a list of factors; a list of one is this one itself. */
        private int readList(int nested, boolean ofTerms) {
            int first = ofTerms ? readList(nested, false) : readFactor(nested);
            int list = first;
            int last = first;
            for (int i = 0; i < MOST_BYTES && joins(token, ofTerms); i++) {
                int join = token;
                advance();
                int next = ofTerms ? readList(nested, false) : readFactor(nested);
                if (i == 0) {
                    list = newNode(A_LIST, 0);
                    program.nodes.set(list, CHILD, first);
                }
                program.nodes.set(next, JOIN, join);
                program.nodes.set(last, NEXT_NODE, next);
                last = next;
            }
            return list;
        }

        private static boolean joins(int token, boolean terms) {
            return terms ? token == '+' || token == '-' : token == '*' || token == '/' || token == '%';
        }

        private int newNode(int type, int itsValue) {
            int node = program.nodes.add();
            program.nodes.set(node, NODE_TYPE, type);
            program.nodes.set(node, NODE_VALUE, itsValue);
            return node;
        }

        private int readFactor(int nested) {
            if (isNoVariable() || isNoRow() || nested >= MOST_LEVELS_OF_A_SUM
                    && (token == '-' || token == '(' || token == SIZE_WORD)) {
                fail(2);
                return NONE;
            }
            int node = NONE;
            switch (token) {
                case NUMBER:
                    node = newNode(A_NUMBER, value);
                    advance();
                    break;
                case VARIABLE_NAME:
                    node = newNode(A_VARIABLE, value);
                    advance();
                    break;
                case '-':
                    advance();
                    node = newNode(A_MINUS, 0);
                    program.nodes.set(node, CHILD, readFactor(nested + 1));
                    break;
                case '(':
                    advance();
                    node = readList(nested + 1, true);
                    expect(')');
                    break;
                case SIZE_WORD:
                    advance();
                    node = newNode(A_SIZE, readRowName());
                    break;
                case ROW_NAME: node = readElement(nested); break;
                default: fail(1); break;
            }
            return node;
        }

        private int readElement(int nested) {
            int node = newNode(AN_ELEMENT, value);
            advance();
            if (token == '[' && nested >= MOST_LEVELS_OF_A_SUM) {
                fail(2);
            } else {
                expect('[');
                program.nodes.set(node, CHILD, fault == 0 ? readList(nested + 1, true) : NONE);
                expect(']');
            }
            return node;
        }
    }

    /** Makes code with a table of handlers from the tree. */
    private static final class Coder {
        // Contexts are what a jump out of a place passes; columns.
        private static final int LOOP = 0, HELD = 1, GUARDED = 2, FINISHING = 3;
        private static final int CONTEXT = 0, STATEMENT = 1, AROUND = 2, HANDLER_AROUND = 3, TO_PATCH = 4,
                START = 5, CONTEXT_WIDTH = 6;
        // Copies within copies that are deeper than this are too long.
        private static final int MOST_DEPTH = 16, MOST_CONTEXTS = 64;

        final Table code;
        final Table handlers;
        private final Table contexts;
        private Program program;
        private boolean shares;
        private boolean full;
        private int handler;
        private int context;

        Coder(Program program) {
            this.program = program;
            code = new Table(MOST_CODE, CODE_WIDTH);
            handlers = new Table(MOST_HANDLERS, 3);
            contexts = new Table(MOST_CONTEXTS, CONTEXT_WIDTH);
        }

        void translate(Program tree, boolean shared) {
            program = tree;
            write(shared);
            if (full) {
                write(true);
            }
        }

        private void write(boolean shared) {
            shares = shared;
            full = false;
            code.reset();
            handlers.reset();
            contexts.reset();
            for (int m = 0; m < program.methods.rows; m++) {
                program.methods.set(m, METHOD_ENTRY, code.rows);
                handler = NONE;
                context = NONE;
                writeBlock(program.methods.get(m, METHOD_BLOCK), 0);
                emit(PUSH, 0, 0);
                emit(GIVE_BACK, 0, 0);
            }
        }

        private int emit(int op, int x, int y) {
            int i = code.add();
            if (i == NONE) {
                full = true;
            }
            code.set(i, OP, op);
            code.set(i, X, x);
            code.set(i, Y, y);
            code.set(i, HANDLER, handler);
            return i;
        }

        /** Instructions that wait for the same target are linked by their X. */
        private void patch(int linked, int target) {
            int i = linked;
            for (int n = 0; n < MOST_CODE && i != NONE; n++) {
                int next = code.get(i, X);
                code.set(i, X, target);
                i = next;
            }
        }

        private int newHandler(int kind, int outer) {
            int h = handlers.add();
            if (h == NONE) {
                full = true;
            }
            handlers.set(h, HANDLED_KIND, kind);
            handlers.set(h, OUTER, outer);
            return h;
        }

        private int pushContext(int type, int s) {
            int c = contexts.add();
            if (c == NONE) {
                full = true;
            }
            contexts.set(c, CONTEXT, type);
            contexts.set(c, STATEMENT, s);
            contexts.set(c, AROUND, context);
            contexts.set(c, HANDLER_AROUND, handler);
            context = c;
            return c;
        }

        private void popContext(int c) {
            context = contexts.get(c, AROUND);
            if (c != NONE) {
                contexts.drop();
            }
        }

        private int levelOf(int s) {
            return program.statements.get(s, LEVEL);
        }

        private void writeBlock(int first, int depth) {
            if (depth > MOST_DEPTH) {
                full = true;
                return;
            }
            int s = first;
            for (int i = 0; i < MOST_STATEMENTS && s != NONE && !full; i++) {
                writeStatement(s, depth);
                s = program.statements.get(s, NEXT);
            }
        }

        private void writeStatement(int s, int depth) {
            Table statements = program.statements;
            emit(BEGIN, s, 0);
            writeSum(statements.get(s, FIRST_SUM), 0);
            writeSum(statements.get(s, SECOND_SUM), 0);
            switch (statements.get(s, TYPE)) {
                case DO_IF: writeIf(s, depth); break;
                case DO_LOOP: writeLoop(s, depth); break;
                case DO_GUARD: writeGuard(s, depth); break;
                case DO_LEAVE: writeJump(s, false, depth); break;
                case DO_NEXT: writeJump(s, true, depth); break;
                case DO_RETURN: writeReturn(depth); break;
                default: writePlain(s); break;
            }
        }

        private void writeReturn(int depth) {
            int kept = handler;
            writeWayOut(NONE, true, depth);
            emit(GIVE_BACK, 0, 0);
            handler = kept;
        }

        private void writePlain(int s) {
            int a = program.statements.get(s, A);
            int b = program.statements.get(s, B);
            switch (program.statements.get(s, TYPE)) {
                case DO_MARK: emit(APPEND, s, a); break;
                case DO_SET: emit(SET, a, 0); break;
                case DO_NEW: emit(NEW_ROW, a, 0); break;
                case DO_NO_ROW: emit(NO_ROW, a, 0); break;
                case DO_COPY: emit(COPY_ROW, a, b); break;
                case DO_STORE: emit(STORE, a, 0); break;
                case DO_THROW: emit(RAISE, a, 0); break;
                case DO_WRAP: emit(RAISE_WRAP, a, b); break;
                case DO_AGAIN: emit(RAISE_CAUGHT, b, 0); break;
                case DO_CALL:
                    emit(CALL, a, 0);
                    emit(b == NONE ? DROP : SET, b, 0);
                    break;
                default: break;
            }
        }

        private void writeIf(int s, int depth) {
            int test = emit(TEST, NONE, program.statements.get(s, A));
            writeBlock(program.statements.get(s, BLOCK), depth + 1);
            int end = emit(GO, NONE, 0);
            patch(test, code.rows);
            writeBlock(program.statements.get(s, OTHER_BLOCK), depth + 1);
            patch(end, code.rows);
        }

        /** A turn begins at the instruction TURN, where next goes too. */
        private void writeLoop(int s, int depth) {
            emit(SET_TURNS, levelOf(s), 0);
            int turn = emit(TURN, NONE, levelOf(s));
            int c = pushContext(LOOP, s);
            contexts.set(c, START, turn);
            writeBlock(program.statements.get(s, BLOCK), depth + 1);
            emit(GO, turn, 0);
            patch(contexts.get(c, TO_PATCH), code.rows);
            patch(turn, code.rows);
            popContext(c);
        }

        private void writeJump(int s, boolean next, int depth) {
            int kept = handler;
            int target = contextOf(program.statements.get(s, A));
            writeWayOut(target, false, depth);
            if (next) {
                emit(GO, contexts.get(target, START), 0);
            } else {
                contexts.set(target, TO_PATCH, emit(GO, contexts.get(target, TO_PATCH), 0));
            }
            handler = kept;
        }

        private int contextOf(int loop) {
            int c = context;
            for (int i = 0; i < MOST_CONTEXTS && c != NONE; i++) {
                if (contexts.get(c, CONTEXT) == LOOP && contexts.get(c, STATEMENT) == loop) {
                    return c;
                }
                c = contexts.get(c, AROUND);
            }
            return NONE;
        }

        /** All that is passed on the way from here to a context, or out of the method. */
        private void writeWayOut(int to, boolean hasValue, int depth) {
            int c = context;
            for (int i = 0; i < MOST_CONTEXTS && c != to && c != NONE && !full; i++) {
                int s = contexts.get(c, STATEMENT);
                switch (contexts.get(c, CONTEXT)) {
                    case HELD: writeClosings(s, contexts.get(c, START)); break;
                    case FINISHING: emit(LOSE, levelOf(s), 0); break;
                    case GUARDED: writePassing(c, levelOf(s), hasValue, depth); break;
                    default: break;
                }
                c = contexts.get(c, AROUND);
            }
        }

        /** What is returned is kept while the finishing block is executed. */
        private void writePassing(int guarded, int level, boolean hasValue, int depth) {
            if (hasValue) {
                emit(KEEP, level, 0);
            }
            writeFinish(guarded, depth);
            if (hasValue) {
                emit(UNKEEP, level, 0);
            }
        }

        /** A closing is handled by the closers of the resources that are still open then. */
        private void writeClosings(int s, int closer) {
            for (int k = program.statements.get(s, A) - 1; k >= 0; k--) {
                handler = handlers.get(closer + k, OUTER);
                emit(CLOSE, s, k);
            }
        }

        private void writeGuard(int s, int depth) {
            int outside = handler;
            boolean finishes = program.statements.get(s, HAS_FINALLY) == 1;
            int all = finishes ? newHandler(0, outside) : outside;
            int guarded = finishes ? pushContext(GUARDED, s) : NONE;
            int firstCatch = handlers.rows;
            handler = newCatchHandlers(s, all);
            int end = writeHeld(s, depth, guarded);
            handler = all;
            end = writeCatches(s, depth, guarded, firstCatch, end);
            handler = outside;
            if (finishes) {
                int calls = contexts.get(guarded, TO_PATCH);
                popContext(guarded);
                handlers.set(all, TARGET, code.rows);
                writeLast(s, depth, calls);
            }
            patch(end, code.rows);
        }

        /** One handler a catch, in their order from the innermost on; answers the innermost one. */
        private int newCatchHandlers(int s, int all) {
            int innermost = all;
            int last = NONE;
            int c = program.statements.get(s, CATCHES);
            for (int i = 0; i < MOST_CATCHES && c != NONE; i++) {
                int h = newHandler(program.catches.get(c, KIND), all);
                if (i == 0) {
                    innermost = h;
                } else {
                    handlers.set(last, OUTER, h);
                }
                last = h;
                c = program.catches.get(c, NEXT_CATCH);
            }
            return innermost;
        }

        /** The first block with its openings and closings; answers the way to the end. */
        private int writeHeld(int s, int depth, int guarded) {
            int n = program.statements.get(s, A);
            int closer = handlers.rows;
            for (int k = 0; k < n; k++) {
                emit(OPEN, s, k);
                handler = newHandler(0, handler);
            }
            int held = n > 0 ? pushContext(HELD, s) : NONE;
            contexts.set(held, START, closer);
            writeBlock(program.statements.get(s, BLOCK), depth + 1);
            if (n > 0) {
                popContext(held);
            }
            writeClosings(s, closer);
            int end = writeEnd(guarded, depth, NONE);
            for (int k = n - 1; k >= 0; k--) {
                handlers.set(closer + k, TARGET, code.rows);
                handler = handlers.get(closer + k, OUTER);
                emit(PEND, levelOf(s), 0);
                emit(CLOSE_UNDER, s, k);
                emit(RAISE_PENDING, levelOf(s), 0);
            }
            return end;
        }

        private int writeCatches(int s, int depth, int guarded, int firstCatch, int linked) {
            int end = linked;
            int c = program.statements.get(s, CATCHES);
            for (int i = 0; i < MOST_CATCHES && c != NONE && !full; i++) {
                handlers.set(firstCatch + i, TARGET, code.rows);
                emit(CATCH, levelOf(s), 0);
                writeBlock(program.catches.get(c, CATCH_BLOCK), depth + 1);
                end = writeEnd(guarded, depth, end);
                c = program.catches.get(c, NEXT_CATCH);
            }
            return end;
        }

        private int writeEnd(int guarded, int depth, int linked) {
            if (guarded != NONE) {
                writeFinish(guarded, depth);
            }
            return emit(GO, linked, 0);
        }

        /** The finishing block on a way on which there is no exception. */
        private void writeFinish(int guarded, int depth) {
            int s = contexts.get(guarded, STATEMENT);
            int keptHandler = handler;
            int keptContext = context;
            handler = contexts.get(guarded, HANDLER_AROUND);
            context = contexts.get(guarded, AROUND);
            emit(CALM, levelOf(s), 0);
            if (shares) {
                int calls = contexts.get(guarded, TO_PATCH);
                contexts.set(guarded, TO_PATCH, emit(SUBROUTINE, calls, levelOf(s)));
            } else {
                writeFinishing(s, depth);
            }
            handler = keptHandler;
            context = keptContext;
        }

        /** The way of an exception through the finishing block, and the block itself if it is shared. */
        private void writeLast(int s, int depth, int calls) {
            emit(PEND, levelOf(s), 0);
            if (shares) {
                int allCalls = emit(SUBROUTINE, calls, levelOf(s));
                emit(RAISE_PENDING, levelOf(s), 0);
                patch(allCalls, code.rows);
                writeFinishing(s, depth);
            } else {
                writeFinishing(s, depth);
                emit(RAISE_PENDING, levelOf(s), 0);
            }
        }

        /** An exception that leaves the finishing block takes the place of the one on its way. */
        private void writeFinishing(int s, int depth) {
            int outside = handler;
            int loser = newHandler(0, outside);
            int c = pushContext(FINISHING, s);
            handler = loser;
            emit(FINISH, s, 0);
            writeBlock(program.statements.get(s, OTHER_BLOCK), depth + 1);
            popContext(c);
            handler = outside;
            int past = shares ? emit(GO_BACK, levelOf(s), 0) : emit(GO, NONE, 0);
            handlers.set(loser, TARGET, code.rows);
            emit(REPLACE, levelOf(s), 0);
            if (!shares) {
                patch(past, code.rows);
            }
        }

        private void writeSum(int node, int depth) {
            if (depth > MOST_DEPTH_OF_A_SUM) {
                full = true;
                return;
            }
            int value = program.nodes.get(node, NODE_VALUE);
            int child = program.nodes.get(node, CHILD);
            switch (program.nodes.get(node, NODE_TYPE)) {
                case A_NUMBER: emit(PUSH, value, 0); break;
                case A_VARIABLE: emit(PUSH_VARIABLE, value, 0); break;
                case A_SIZE: emit(PUSH_SIZE, value, 0); break;
                case AN_ELEMENT:
                    writeSum(child, depth + 1);
                    emit(PUSH_ELEMENT, value, 0);
                    break;
                case A_MINUS:
                    writeSum(child, depth + 1);
                    emit(NEGATE, 0, 0);
                    break;
                case A_LIST: writeList(child, depth + 1); break;
                default: break;
            }
        }

        private void writeList(int first, int depth) {
            int node = first;
            for (int i = 0; i < MOST_BYTES && node != NONE && !full; i++) {
                writeSum(node, depth);
                if (i > 0) {
                    emit(APPLY, program.nodes.get(node, JOIN), 0);
                }
                node = program.nodes.get(node, NEXT_NODE);
            }
        }
    }

    /** What can be asked for of a run. */
    private static final class RunRecord {
        final Table tape;
        final Table failures;
        final Table activations;
        final Table closings;
        final Table entries;
        int ended;
        int returned;
        int ender;
        int opened;
        int lost;
        int deepest;
        int steps;

        RunRecord() {
            tape = new Table(MOST_STEPS, 1);
            // Each exception, and each call, has a step of its own.
            failures = new Table(MOST_STEPS, FAILURE_WIDTH);
            activations = new Table(MOST_STEPS + 1, 3);
            closings = new Table(MOST_STEPS, 1);
            entries = new Table(MOST_STATEMENTS, 1);
            ended = NONE;
        }

        void restart(int statements) {
            tape.reset();
            failures.reset();
            activations.reset();
            closings.reset();
            entries.fill(statements, 0);
            ended = NONE;
            returned = 0;
            ender = NONE;
            opened = 0;
            lost = 0;
            deepest = 0;
            steps = 0;
        }

        int property(int what) {
            switch (what) {
                case 0: return ended;
                case 1: return returned;
                case 2: return ender;
                case 3: return tape.rows;
                case 4: return failures.rows;
                case 5: return opened;
                case 6: return closings.rows;
                case 7: return lost;
                case 8: return deepest;
                default: return steps;
            }
        }

        int traced(int failure, int k) {
            if (k < 0) {
                return NONE;
            }
            int id = failures.get(failure, FAILED_ACTIVATION);
            int statement = failures.get(failure, FAILED_STATEMENT);
            for (int i = 0; i < k && id != NONE; i++) {
                statement = activations.get(id, CALLED_FROM);
                id = activations.get(id, CALLER);
            }
            return id == NONE ? NONE : 1000 * activations.get(id, CALLED_METHOD) + statement;
        }

        boolean agrees(RunRecord other) {
            for (int what = 0; what <= 9; what++) {
                if (property(what) != other.property(what)) {
                    return false;
                }
            }
            return tape.equalIn(other.tape, 1) && failures.equalIn(other.failures, FAILED_ACTIVATION)
                    && closings.equalIn(other.closings, 1) && entries.equalIn(other.entries, 1);
        }
    }

    /** What a run works on, whether it is of the code or of the tree. */
    private static final class World {
        final Table passings;
        private final Table activations;
        private final Table slots;
        private final Table arrays;
        private final Table passed;
        Program program;
        RunRecord record;
        private Table plan;
        private int limit;
        int thrown;
        boolean notesPassings;

        World(Program program, Table plan, RunRecord record) {
            this.program = program;
            this.plan = plan;
            this.record = record;
            passings = new Table(MOST_PASSINGS, 3);
            activations = new Table(MOST_ACTIVE, NOW_WIDTH);
            slots = new Table(MOST_ACTIVE * MOST_BLOCKS, SLOT_WIDTH);
            arrays = new Table(MOST_STEPS, 1 + MOST_LENGTH);
            passed = new Table(MOST_STATEMENTS, PARTS);
            // Not for each run: a slot is always set before it is read.
            slots.fill(MOST_ACTIVE * MOST_BLOCKS, NONE);
            thrown = NONE;
        }

        void prepare(Program itsProgram, Table itsPlan, RunRecord itsRecord, int steps) {
            program = itsProgram;
            plan = itsPlan;
            record = itsRecord;
            limit = steps;
            thrown = NONE;
            record.restart(program.statements.rows);
            activations.reset();
            arrays.reset();
            passed.fill(program.statements.rows, 0);
        }

        boolean isRunning() {
            return record.ended == NONE;
        }

        boolean takeStep() {
            if (record.steps >= limit) {
                record.ended = SPENT;
                return false;
            }
            record.steps++;
            return true;
        }

        void end(int how, int value) {
            record.ended = how;
            if (how == RETURNED) {
                record.returned = value;
            } else {
                record.ender = value;
            }
        }

        int active() {
            return activations.rows;
        }

        void enter(int method, int a, int b) {
            int id = record.activations.add();
            record.activations.set(id, CALLER, now(NOW_ID));
            record.activations.set(id, CALLED_FROM, now(NOW_STATEMENT));
            record.activations.set(id, CALLED_METHOD, method);
            activations.add();
            setNow(NOW_ID, id);
            for (int i = 0; i < ALL_VARIABLES; i++) {
                setNow(NOW_VARIABLES + i, i == 0 ? a : i == 1 ? b : 0);
            }
            record.deepest = Math.max(record.deepest, activations.rows);
        }

        void leave() {
            activations.drop();
        }

        int now(int column) {
            return activations.get(activations.rows - 1, column);
        }

        void setNow(int column, int value) {
            activations.set(activations.rows - 1, column, value);
        }

        int slot(int level, int column) {
            return slots.get((activations.rows - 1) * MOST_BLOCKS + level, column);
        }

        void setSlot(int level, int column, int value) {
            slots.set((activations.rows - 1) * MOST_BLOCKS + level, column, value);
        }

        int kindOf(int failure) {
            return record.failures.get(failure, FAILED_KIND);
        }

        void raise(int kind, int cause) {
            int top = activations.rows - 1;
            int e = record.failures.add();
            record.failures.set(e, FAILED_KIND, kind);
            record.failures.set(e, CAUSE, cause);
            record.failures.set(e, FAILED_STATEMENT, activations.get(top, NOW_STATEMENT));
            record.failures.set(e, FAILED_DEPTH, activations.rows);
            record.failures.set(e, FAILED_ACTIVATION, activations.get(top, NOW_ID));
            thrown = e;
        }

        void suppress(int under, int e) {
            int last = record.failures.get(under, FIRST_SUPPRESSED);
            if (last == NONE) {
                record.failures.set(under, FIRST_SUPPRESSED, e);
                return;
            }
            for (int i = 0; i < MOST_STEPS && record.failures.get(last, NEXT_SUPPRESSED) != NONE; i++) {
                last = record.failures.get(last, NEXT_SUPPRESSED);
            }
            record.failures.set(last, NEXT_SUPPRESSED, e);
        }

        /** Answers the kind of the exception that is planned for this passing, or NONE. */
        private int pass(int statement, int part) {
            int time = passed.get(statement, part) + 1;
            passed.set(statement, part, time);
            if (notesPassings) {
                int i = passings.add();
                passings.set(i, AT_STATEMENT, statement);
                passings.set(i, AT_PART, part);
                passings.set(i, AT_TIME, time);
            }
            for (int i = 0; i < plan.rows; i++) {
                if (plan.get(i, AT_STATEMENT) == statement && plan.get(i, AT_PART) == part
                        && plan.get(i, AT_TIME) == time) {
                    return plan.get(i, PLANNED_KIND);
                }
            }
            return NONE;
        }

        void append(int statement, int number) {
            int kind = pass(statement, 0);
            if (kind == NONE) {
                record.tape.set(record.tape.add(), 0, number);
            } else {
                raise(kind, NONE);
            }
        }

        void open(int statement, int k) {
            int kind = pass(statement, 1 + k);
            if (kind == NONE) {
                setSlot(program.statements.get(statement, LEVEL), RESOURCES + k, record.opened);
                record.opened++;
            } else {
                raise(kind, NONE);
            }
        }

        /** A resource whose closing throws is closed nevertheless. */
        void close(int statement, int k) {
            int resource = slot(program.statements.get(statement, LEVEL), RESOURCES + k);
            record.closings.set(record.closings.add(), 0, resource);
            setNow(NOW_STATEMENT, statement);
            int kind = pass(statement, 1 + MOST_RESOURCES + k);
            if (kind != NONE) {
                raise(kind, NONE);
            }
        }

        void finish(int statement) {
            record.entries.set(statement, 0, record.entries.get(statement, 0) + 1);
        }

        int apply(int sign, int x, int y) {
            switch (sign) {
                case '+': return x + y;
                case '-': return x - y;
                case '*': return x * y;
                default: break;
            }
            if (y == 0) {
                raise(KIND_ZERO, NONE);
                return 0;
            }
            return sign == '/' ? x / y : x % y;
        }

        boolean compares(int sign, int x, int y) {
            return sign == '=' ? x == y : sign == '<' ? x < y : x > y;
        }

        void newRow(int row, int length) {
            if (length < 0 || length > MOST_LENGTH) {
                raise(KIND_SIZE, NONE);
                return;
            }
            int array = arrays.add();
            arrays.set(array, 0, length);
            for (int i = 1; i <= length; i++) {
                arrays.set(array, i, 0);
            }
            setNow(NOW_ROWS + row, array);
        }

        /** Answers the kind of the exception that is due for this element, or NONE if there is the element. */
        private int lacking(int array, int index) {
            if (array == NONE) {
                return KIND_NULL;
            }
            return index < 0 || index >= arrays.get(array, 0) ? KIND_INDEX : NONE;
        }

        int element(int row, int index) {
            int array = now(NOW_ROWS + row);
            int kind = lacking(array, index);
            if (kind != NONE) {
                raise(kind, NONE);
                return 0;
            }
            return arrays.get(array, 1 + index);
        }

        void store(int row, int index, int value) {
            int array = now(NOW_ROWS + row);
            int kind = lacking(array, index);
            if (kind != NONE) {
                raise(kind, NONE);
            } else {
                arrays.set(array, 1 + index, value);
            }
        }

        int size(int row) {
            int array = now(NOW_ROWS + row);
            if (array == NONE) {
                raise(KIND_NULL, NONE);
                return 0;
            }
            return arrays.get(array, 0);
        }
    }

    /** Walks the tree. A block ends in a way: at its end, by a return, a jump or an exception. */
    private static final class Walker {
        private static final int AT_END = 0, BY_RETURN = 1, BY_LEAVE = 2, BY_NEXT = 3, BY_EXCEPTION = 4;
        // What a guard does next when no block of it is being executed.
        private static final int OPENING = 0, AFTER_BLOCK = 1, CLOSING = 2, AFTER_CATCH = 3, AFTER_FINALLY = 4;

        private final World world;
        // The next statement of the present block, or NONE if the block has ended.
        private int cursor;
        // The statement to which the present block belongs, or NONE for that of the method.
        private int inside;
        private int way;
        // What is returned, the loop of a jump, or the exception.
        private int value;
        // The values of the present statement's sums.
        private int firstSum;
        private int secondSum;

        Walker(World world) {
            this.world = world;
            cursor = NONE;
            inside = NONE;
        }

        void walk(int method, int a, int b) {
            enter(method, a, b);
            for (int i = 0; i < MOST_TURNS && world.isRunning(); i++) {
                int s = cursor == NONE ? inside : cursor;
                if (cursor != NONE) {
                    begin(s);
                    if (world.isRunning() && world.thrown == NONE) {
                        execute(s);
                    }
                    takeThrown();
                } else if (inside == NONE) {
                    leave();
                } else if (at(s, TYPE) == DO_GUARD) {
                    endPhase(s);
                } else if (at(s, TYPE) == DO_LOOP) {
                    endTurn(s);
                } else {
                    goOn(s);
                }
            }
        }

        private int at(int s, int column) {
            return world.program.statements.get(s, column);
        }

        private int slot(int s, int column) {
            return world.slot(at(s, LEVEL), column);
        }

        private void setSlot(int s, int column, int x) {
            world.setSlot(at(s, LEVEL), column, x);
        }

        private void enter(int method, int a, int b) {
            world.enter(method, a, b);
            cursor = world.program.methods.get(method, METHOD_BLOCK);
            inside = NONE;
            way = AT_END;
        }

        private void leave() {
            int result = way == BY_RETURN ? value : 0;
            world.leave();
            if (world.active() == 0) {
                world.end(way == BY_EXCEPTION ? THROWN : RETURNED, way == BY_EXCEPTION ? value : result);
                return;
            }
            int s = world.now(NOW_STATEMENT);
            if (way != BY_EXCEPTION) {
                way = AT_END;
                if (at(s, B) != NONE) {
                    world.setNow(NOW_VARIABLES + at(s, B), result);
                }
            }
            goOn(s);
        }

        /** The statement has ended, in the present way. */
        private void goOn(int s) {
            inside = at(s, INSIDE);
            cursor = way == AT_END ? at(s, NEXT) : NONE;
        }

        private void endBy(int itsWay, int itsValue) {
            way = itsWay;
            value = itsValue;
            cursor = NONE;
        }

        private void takeThrown() {
            if (world.thrown != NONE) {
                endBy(BY_EXCEPTION, world.thrown);
                world.thrown = NONE;
            }
        }

        private void begin(int s) {
            if (world.takeStep()) {
                world.setNow(NOW_STATEMENT, s);
                firstSum = sum(at(s, FIRST_SUM), 0);
                secondSum = sum(at(s, SECOND_SUM), 0);
                cursor = at(s, NEXT);
            }
        }

        private void execute(int s) {
            int a = at(s, A);
            int b = at(s, B);
            switch (at(s, TYPE)) {
                case DO_MARK: world.append(s, a); break;
                case DO_CALL:
                    if (world.active() >= MOST_ACTIVE) {
                        world.raise(KIND_DEEP, NONE);
                    } else {
                        enter(a, firstSum, secondSum);
                    }
                    break;
                case DO_SET: world.setNow(NOW_VARIABLES + a, firstSum); break;
                case DO_NEW: world.newRow(a, firstSum); break;
                case DO_NO_ROW: world.setNow(NOW_ROWS + a, NONE); break;
                case DO_COPY: world.setNow(NOW_ROWS + a, world.now(NOW_ROWS + b)); break;
                case DO_STORE: world.store(a, firstSum, secondSum); break;
                case DO_RETURN: endBy(BY_RETURN, firstSum); break;
                case DO_IF: enterBlock(s, world.compares(a, firstSum, secondSum) ? BLOCK : OTHER_BLOCK); break;
                case DO_LOOP:
                    setSlot(s, TURNS_LEFT, firstSum);
                    turn(s);
                    break;
                case DO_LEAVE: endBy(BY_LEAVE, a); break;
                case DO_NEXT: endBy(BY_NEXT, a); break;
                case DO_THROW: world.raise(a, NONE); break;
                case DO_WRAP: world.raise(a, world.slot(b, CAUGHT)); break;
                case DO_AGAIN: world.thrown = world.slot(b, CAUGHT); break;
                case DO_GUARD:
                    setSlot(s, PHASE, OPENING);
                    setSlot(s, OPENED, 0);
                    enterBlock(s, NONE);
                    break;
                default: break;
            }
        }

        private void enterBlock(int s, int block) {
            inside = s;
            way = AT_END;
            cursor = at(s, block);
        }

        private void turn(int s) {
            int left = slot(s, TURNS_LEFT);
            if (left < 1) {
                way = AT_END;
                goOn(s);
            } else if (world.takeStep()) {
                setSlot(s, TURNS_LEFT, left - 1);
                enterBlock(s, BLOCK);
            }
        }

        private void endTurn(int s) {
            if (way == AT_END || way == BY_NEXT && value == s) {
                turn(s);
            } else {
                if (way == BY_LEAVE && value == s) {
                    way = AT_END;
                }
                goOn(s);
            }
        }

        /** Nothing of the guard is being executed: goes on with what comes next. */
        private void endPhase(int s) {
            switch (slot(s, PHASE)) {
                case OPENING: openNext(s); break;
                case AFTER_BLOCK: setSlot(s, PHASE, CLOSING); break;
                case CLOSING:
                    if (slot(s, OPENED) > 0) {
                        closeNext(s);
                    } else {
                        chooseCatch(s);
                    }
                    break;
                case AFTER_CATCH: finish(s); break;
                default: endFinally(s); break;
            }
        }

        private void openNext(int s) {
            int opened = slot(s, OPENED);
            if (opened >= at(s, A)) {
                setSlot(s, PHASE, AFTER_BLOCK);
                enterBlock(s, BLOCK);
            } else if (world.takeStep()) {
                world.open(s, opened);
                if (world.thrown == NONE) {
                    setSlot(s, OPENED, opened + 1);
                } else {
                    setSlot(s, PHASE, CLOSING);
                    takeThrown();
                }
            }
        }

        private void closeNext(int s) {
            int last = slot(s, OPENED) - 1;
            if (world.takeStep()) {
                setSlot(s, OPENED, last);
                world.close(s, last);
                if (world.thrown != NONE && way == BY_EXCEPTION) {
                    world.suppress(value, world.thrown);
                    world.thrown = NONE;
                }
                takeThrown();
            }
        }

        private void chooseCatch(int s) {
            setSlot(s, PHASE, AFTER_CATCH);
            int c = way == BY_EXCEPTION ? world.program.catchOf(s, world.kindOf(value)) : NONE;
            if (c != NONE) {
                setSlot(s, CAUGHT, value);
                way = AT_END;
                cursor = world.program.catches.get(c, CATCH_BLOCK);
            }
        }

        private void finish(int s) {
            if (at(s, HAS_FINALLY) != 1) {
                goOn(s);
                return;
            }
            setSlot(s, PENDING_WAY, way);
            setSlot(s, PENDING, value);
            setSlot(s, PHASE, AFTER_FINALLY);
            world.finish(s);
            enterBlock(s, OTHER_BLOCK);
        }

        private void endFinally(int s) {
            int pending = slot(s, PENDING_WAY);
            if (way == AT_END) {
                way = pending;
                value = slot(s, PENDING);
            } else if (pending == BY_EXCEPTION) {
                world.record.lost++;
            }
            goOn(s);
        }

        /** After an exception nothing more is evaluated. */
        private int sum(int node, int depth) {
            if (world.thrown != NONE || node == NONE || depth > MOST_DEPTH_OF_A_SUM) {
                return 0;
            }
            Table nodes = world.program.nodes;
            int itsValue = nodes.get(node, NODE_VALUE);
            int child = nodes.get(node, CHILD);
            switch (nodes.get(node, NODE_TYPE)) {
                case A_NUMBER: return itsValue;
                case A_VARIABLE: return world.now(NOW_VARIABLES + itsValue);
                case A_SIZE: return world.size(itsValue);
                case A_MINUS: return -sum(child, depth + 1);
                case A_LIST: return list(child, depth + 1);
                default: break;
            }
            int index = sum(child, depth + 1);
            return world.thrown == NONE ? world.element(itsValue, index) : 0;
        }

        private int list(int first, int depth) {
            Table nodes = world.program.nodes;
            int result = sum(first, depth);
            int node = nodes.get(first, NEXT_NODE);
            for (int i = 0; i < MOST_BYTES && node != NONE && world.thrown == NONE; i++) {
                int x = sum(node, depth);
                if (world.thrown == NONE) {
                    result = world.apply(nodes.get(node, JOIN), result, x);
                }
                node = nodes.get(node, NEXT_NODE);
            }
            return result;
        }
    }

    /** Runs the code. An exception goes to the handlers of the instruction, then to those of the calls. */
    private static final class Machine {
        private final World world;
        private final Table code;
        private final Table handlers;
        private final Table stack;
        private int present;
        private int next;
        private int caught;

        Machine(World world, Table code, Table handlers) {
            this.world = world;
            this.code = code;
            this.handlers = handlers;
            stack = new Table(MOST_STACK, 1);
            caught = NONE;
        }

        void work(int method, int a, int b) {
            stack.reset();
            world.enter(method, a, b);
            next = world.program.methods.get(method, METHOD_ENTRY);
            for (int i = 0; i < MOST_TURNS && world.isRunning(); i++) {
                present = next;
                next++;
                int op = code.get(present, OP);
                int x = code.get(present, X);
                int y = code.get(present, Y);
                if (op < FIRST_DATA) {
                    evaluate(op, x);
                } else if (op < FIRST_FLOW) {
                    change(op, x, y);
                } else if (op < FIRST_FAILING) {
                    flow(op, x, y);
                } else {
                    fail(op, x, y);
                }
                if (world.thrown != NONE) {
                    unwind();
                }
            }
        }

        private void push(int x) {
            stack.set(stack.add(), 0, x);
        }

        private int pop() {
            int x = stack.get(stack.rows - 1, 0);
            stack.drop();
            return x;
        }

        private void unwind() {
            int e = world.thrown;
            world.thrown = NONE;
            stack.reset();
            for (int i = 0; i < MOST_ACTIVE; i++) {
                int h = handlerOf(code.get(present, HANDLER), world.kindOf(e));
                if (h != NONE) {
                    caught = e;
                    next = handlers.get(h, TARGET);
                    return;
                }
                world.leave();
                if (world.active() == 0) {
                    world.end(THROWN, e);
                    return;
                }
                present = world.now(NOW_PLACE);
            }
        }

        private int handlerOf(int innermost, int kind) {
            int h = innermost;
            for (int i = 0; i < MOST_HANDLERS && h != NONE; i++) {
                if (world.program.covers(handlers.get(h, HANDLED_KIND), kind)) {
                    return h;
                }
                h = handlers.get(h, OUTER);
            }
            return NONE;
        }

        private void evaluate(int op, int x) {
            switch (op) {
                case PUSH: push(x); break;
                case PUSH_VARIABLE: push(world.now(NOW_VARIABLES + x)); break;
                case PUSH_ELEMENT: push(world.element(x, pop())); break;
                case PUSH_SIZE: push(world.size(x)); break;
                case NEGATE: push(-pop()); break;
                default:
                    int right = pop();
                    int left = pop();
                    push(world.apply(x, left, right));
                    break;
            }
        }

        private void change(int op, int x, int y) {
            switch (op) {
                case BEGIN:
                    if (world.takeStep()) {
                        world.setNow(NOW_STATEMENT, x);
                    }
                    break;
                case APPEND: world.append(x, y); break;
                case SET: world.setNow(NOW_VARIABLES + x, pop()); break;
                case NEW_ROW: world.newRow(x, pop()); break;
                case NO_ROW: world.setNow(NOW_ROWS + x, NONE); break;
                case COPY_ROW: world.setNow(NOW_ROWS + x, world.now(NOW_ROWS + y)); break;
                case STORE:
                    int value = pop();
                    int index = pop();
                    world.store(x, index, value);
                    break;
                default: pop(); break;
            }
        }

        private void flow(int op, int x, int y) {
            switch (op) {
                case TEST:
                    int right = pop();
                    int left = pop();
                    next = world.compares(y, left, right) ? next : x;
                    break;
                case GO: next = x; break;
                case SET_TURNS: world.setSlot(x, TURNS_LEFT, pop()); break;
                case TURN: turn(x, y); break;
                case CALL: call(x); break;
                case GIVE_BACK: giveBack(); break;
                case SUBROUTINE:
                    world.setSlot(y, BACK, next);
                    next = x;
                    break;
                case GO_BACK: next = world.slot(x, BACK); break;
                case KEEP: world.setSlot(x, KEPT, pop()); break;
                default: push(world.slot(x, KEPT)); break;
            }
        }

        private void turn(int end, int level) {
            int left = world.slot(level, TURNS_LEFT);
            if (left < 1) {
                next = end;
            } else if (world.takeStep()) {
                world.setSlot(level, TURNS_LEFT, left - 1);
            }
        }

        private void call(int method) {
            int b = pop();
            int a = pop();
            if (world.active() >= MOST_ACTIVE) {
                world.raise(KIND_DEEP, NONE);
            } else {
                world.setNow(NOW_PLACE, present);
                world.enter(method, a, b);
                next = world.program.methods.get(method, METHOD_ENTRY);
            }
        }

        private void giveBack() {
            world.leave();
            if (world.active() == 0) {
                world.end(RETURNED, pop());
            } else {
                next = world.now(NOW_PLACE) + 1;
            }
        }

        private void fail(int op, int x, int y) {
            switch (op) {
                case RAISE: world.raise(x, NONE); break;
                case RAISE_WRAP: world.raise(x, world.slot(y, CAUGHT)); break;
                case RAISE_CAUGHT: world.thrown = world.slot(x, CAUGHT); break;
                case RAISE_PENDING: world.thrown = world.slot(x, PENDING); break;
                case CATCH: world.setSlot(x, CAUGHT, caught); break;
                case PEND: world.setSlot(x, PENDING, caught); break;
                case CALM: world.setSlot(x, PENDING, NONE); break;
                case FINISH: world.finish(x); break;
                case LOSE: lose(x); break;
                case REPLACE:
                    lose(x);
                    world.thrown = caught;
                    break;
                case OPEN:
                    if (world.takeStep()) {
                        world.open(x, y);
                    }
                    break;
                case CLOSE:
                    if (world.takeStep()) {
                        world.close(x, y);
                    }
                    break;
                default: closeUnder(x, y); break;
            }
        }

        private void lose(int level) {
            if (world.slot(level, PENDING) != NONE) {
                world.record.lost++;
            }
        }

        private void closeUnder(int s, int k) {
            if (!world.takeStep()) {
                return;
            }
            world.close(s, k);
            if (world.thrown != NONE) {
                int pending = world.slot(world.program.statements.get(s, LEVEL), PENDING);
                world.suppress(pending, world.thrown);
                world.thrown = NONE;
            }
        }
    }
}
