/** Each promise of the document: ordinary inputs, the edges that it names, and wrong inputs. */
public final class PromisesTest {
    private static final int BAD = -1, FULL = -2, NONE = -9;
    private static final int RETURNED = 0, THROWN = 1, SPENT = 2;
    private static final Checks CHECKS = new Checks();
    private static String topic = "";

    public static void main(String[] args) {
        constants();
        newObject();
        say();
        compile();
        compileKeepsOrDrops();
        fault();
        count();
        plan();
        clear();
        run();
        ran();
        mark();
        failure();
        suppressed();
        trace();
        closed();
        entered();
        handler();
        ways();
        same();
        sums();
        rows();
        flow();
        guards();
        resources();
        CHECKS.end("PromisesTest");
    }

    private static void due(String call, long got, long want) {
        CHECKS.due(topic + ": " + call, got, want);
    }

    private static void constants() {
        topic = "constants";
        due("BAD", WaysAtlas.BAD, -1);
        due("FULL", WaysAtlas.FULL, -2);
        due("NONE", WaysAtlas.NONE, -9);
        due("RETURNED", WaysAtlas.RETURNED, 0);
        due("THROWN", WaysAtlas.THROWN, 1);
        due("SPENT", WaysAtlas.SPENT, 2);
    }

    private static void newObject() {
        topic = "promise 1";
        WaysAtlas x = new WaysAtlas();
        due("fault", x.fault(), 0);
        due("count 4", x.count(4), 0);
        for (int what = 0; what <= 3; what++) {
            due("count " + what, x.count(what), BAD);
        }
        due("clear", x.clear(), 0);
        due("plan", x.plan(0, 0, 1, 0), BAD);
        for (int method = -1; method <= 1; method++) {
            due("run", x.run(false, method, 0, 0, 400), BAD);
            due("walk", x.run(true, method, 0, 0, 400), BAD);
            due("ways", x.ways(method, 0, 0), BAD);
            due("same", x.same(method, 0, 0), BAD);
        }
        due("handler", x.handler(0, 0), BAD);
        for (int which = -1; which <= 2; which++) {
            due("ran", x.ran(which, 0), BAD);
            due("mark", x.mark(which, 0), BAD);
            due("failure", x.failure(which, 0, 0), BAD);
            due("trace", x.trace(which, 0, 0), BAD);
            due("closed", x.closed(which, 0), BAD);
            due("entered", x.entered(which, 0), BAD);
        }
        due("the text is empty", x.say('m', 1), 1);
    }

    private static void say() {
        topic = "promise 2";
        WaysAtlas x = new WaysAtlas();
        due("n 0", x.say(65, 0), BAD);
        due("n 9", x.say(65, 9), BAD);
        due("n -1", x.say(65, -1), BAD);
        due("least n", x.say(65, Integer.MIN_VALUE), BAD);
        due("greatest n", x.say(65, Integer.MAX_VALUE), BAD);
        // "method{" in two calls; higher bytes do not count.
        due("4 bytes", x.say(0x123456786d657468L, 4), 4);
        due("3 bytes", x.say(0x7fffff6f647bL, 3), 7);
        due("1 byte", x.say(-256 | '}', 1), 8);
        due("compile", x.compile(true), 0);
        due("the text is empty again", x.say(0x6d6574686f647b7dL, 8), 8);
        due("compile", x.compile(false), 0);
        for (int i = 1; i <= 124; i++) {
            due("say", x.say(0x2020202020202020L, 8), 8 * i);
        }
        due("more than 1000", x.say(0, 8), 1000);
        due("full", x.say(0, 1), FULL);
        due("full, 8", x.say(0, 8), FULL);
        due("bad before full", x.say(0, 9), BAD);
        due("the zero bytes are no tokens", x.compile(true), -100 - 992);
        Checks.say(x, " ".repeat(996));
        due("5 do not fit", x.say(0, 5), FULL);
        due("nor does a call that fails append", x.say(0x20202020, 4), 1000);
        due("compile", x.compile(true), -1100);
    }

    private static void faulty(String text, int number, int place) {
        WaysAtlas x = new WaysAtlas();
        due("compile of " + text, Checks.compile(x, text, true), -100 - place);
        due("fault of " + text, x.fault(), number);
        due("compile, copied, of " + text, Checks.compile(x, text, false), -100 - place);
        due("no program", x.count(0), BAD);
    }

    private static void fine(String text, int statements) {
        WaysAtlas x = new WaysAtlas();
        due("compile of " + text, Checks.compile(x, text, true), statements);
        due("fault of " + text, x.fault(), 0);
        due("compile, copied, of " + text, Checks.compile(x, text, false), statements);
    }

    private static String in(String statements) {
        return "method{" + statements + "}";
    }

    /** Where the sign @ stands in the statements there is the fault. */
    private static void faultyIn(String statements, int number) {
        faulty(in(statements.replace("@", "")), number, 7 + statements.indexOf('@'));
    }

    private static void compile() {
        topic = "promise 3";
        faulty("", 1, 0);
        faulty(" \n ", 1, 3);
        faulty("method", 1, 6);
        faulty("method{", 1, 7);
        faulty("method{ ", 1, 8);
        faulty("kind under k0;", 1, 14);
        faulty("methods{}", 1, 0);
        faulty("Method{}", 1, 0);
        faulty("method{}x", 1, 8);
        faulty("method{};", 1, 8);
        faulty("method{}kind under k0;", 1, 8);
        faulty("method\t{}", 1, 6);
        faulty("method{}\r", 1, 8);
        faulty("method{mark 1}", 1, 13);
        fine("method{}", 0);
        fine("\n method \n { \n } ", 0);
        fine("kind under k0;kind under k07;method{throw k8;}", 1);
        faultyIn("mark @12345;", 1);
        fine(in("mark 0000;mark 9999;"), 2);
        // Blanks are necessary only where two tokens would run together.
        fine("kind underk1;method{v1=callm0(1,2);callm0(v1,v1);throwk7;loopv1{return sizer0;}r0=rowv1;}", 6);
        faulty("kindunderk1;method{}", 1, 0);
        faultyIn("@mark1;", 1);
        faultyIn("return @;", 1);
        faultyIn("@returnsize r0;", 1);
        faultyIn("return@x1;", 1);
        faultyIn("return@v123;", 1);
        faultyIn("return @x1;", 1);
        faultyIn("return @v123;", 1);
        faultyIn("return @v;", 1);
        fine(in("return v00;return v05;"), 2);
        faultyIn("return v1@v2;", 1);
        faultyIn("return 1 @2;", 1);
        faultyIn("@v6=1;", 2);
        faultyIn("v0=@v06;", 2);
        faultyIn("@r3=none;", 2);
        faultyIn("r0=@r3;", 2);
        faultyIn("v0=size @r9;", 2);
        faultyIn("v0=@r3[0];", 2);
        faultyIn("v0=r0@;", 1);
        faultyIn("v0=r0@(1);", 1);
        faultyIn("r0@;", 1);
        faultyIn("r0=@1;", 1);
        faultyIn("r0=@v1;", 1);
        faultyIn("v0=@row 1;", 1);
        faultyIn("v0=@none;", 1);
        faultyIn("v0=r1@;", 1);
        faultyIn("r0[0]@;", 1);
        faultyIn("r0[0]=@call m0(0,0);", 1);
        faultyIn("@m0=1;", 1);
        faultyIn("@k0=1;", 1);
        faultyIn("@1=1;", 1);
        faultyIn("@else{}", 1);
        faultyIn("@catch k0{}", 1);
        faultyIn("@finally{}", 1);
        faultyIn("@method{}", 1);
        faultyIn("@kind under k0;", 1);
        faultyIn("call @k0(1,1);", 1);
        faultyIn("call m0(1@);", 1);
        faultyIn("call m0(1,1@,1);", 1);
        faultyIn("call m0@[1,1];", 1);
        faultyIn("throw @m0;", 1);
        faultyIn("throw @1;", 1);
        faultyIn("leave @v1;", 1);
        faultyIn("if 1@{}", 1);
        faultyIn("if 1=@=1{}", 1);
        faultyIn("if 1<1@;", 1);
        faultyIn("if 1>1{}else @if 1=1{}", 1);
        faultyIn("if 1>1{}else{}@else{}", 1);
        faultyIn("loop 2@;", 1);
        faultyIn("guard{}@", 1);
        faultyIn("guard{}@mark 1;", 1);
        faultyIn("guard{}finally{}@finally{}", 1);
        faultyIn("guard{}finally{}@catch k0{}", 1);
        faultyIn("guard @1{}finally{}", 1);
        faultyIn("guard{}catch@{}", 1);
        fine(in("guard{}catch k0{}guard{}finally{}guard{}catch k1{}catch k0{}finally{}"), 3);
        fine(in("with 1{}with 02{}with 3{}catch k0{}finally{}"), 3);
        faultyIn("with @0{}", 2);
        faultyIn("with @4{}", 2);
        faultyIn("with @{}", 1);
        faultyIn("with @v1{}", 1);
        faultyIn("with @12345{}", 1);
        faultyIn("throw @k7;", 3);
        faultyIn("throw @k99;", 3);
        faultyIn("guard{}catch @k7{}", 3);
        faultyIn("call @m1(0,0);", 3);
        fine("method{call m1(0,0);}method{call m0(0,0);}", 2);
        faulty("method{call m1(0,0);call m2(0,0);}method{}", 3, 25);
        faulty("kind under k7;method{}", 3, 11);
        faulty("kind under k1;kind under k8;method{}", 3, 25);
        faulty("kind under k1;kind under k7;method{throw k9;}", 3, 41);
        faultyIn("leave @1;", 3);
        faultyIn("next @0;", 3);
        faultyIn("loop 1{leave @0;}", 3);
        faultyIn("loop 1{loop 1{next 2;leave @3;}}", 3);
        fine(in("loop 1{loop 1{next 0002;leave 1;}leave 1;}"), 5);
        faulty("method{loop 1{}}method{leave 1;}", 3, 29);
        faultyIn("@again;", 3);
        faultyIn("@wrap k7;", 3);
        faultyIn("guard{@again;}catch k0{again;}finally{again;}", 3);
        faultyIn("guard{}catch k0{again;}finally{@again;}", 3);
        faultyIn("guard{}catch k0{wrap @k7;}", 3);
        fine(in("guard{}catch k0{guard{again;}finally{wrap k1;if 1=1{loop 1{again;}}}}"), 7);
        faulty("method{guard{}catch k0{}}method{again;}", 3, 32);
        // The first one of number 1 or 2 counts before any of number 3; of those the first one in the text.
        faultyIn("again;throw k9;mark @;", 1);
        faultyIn("again;throw k9;@v6=1;", 2);
        faultyIn("call @m1(0,0);again;throw k9;", 3);
        faultyIn("@again;call m1(0,0);", 3);
    }

    private static void compileKeepsOrDrops() {
        topic = "promise 3, what stays";
        WaysAtlas x = Checks.made("method{mark 7;return 3;}", true);
        due("run", x.run(false, 0, 0, 0, 400), RETURNED);
        due("walk", x.run(true, 0, 0, 0, 400), RETURNED);
        due("plan", x.plan(0, 0, 1, 2), 1);
        due("fault", Checks.compile(x, "method{mark 8;return 4;}}", true), -124);
        due("the text is empty", x.compile(true), -100);
        due("statements", x.count(0), 2);
        due("entries", x.count(4), 1);
        due("the run stays", x.ran(0, 1), 3);
        due("the walk stays", x.mark(1, 0), 7);
        due("run", x.run(false, 0, 0, 0, 400), THROWN);
        due("kind", x.failure(0, 0, 0), 2);
        due("no fault", Checks.compile(x, "method{mark 8;return 4;}", true), 2);
        due("no entries", x.count(4), 0);
        due("no run", x.ran(0, 0), BAD);
        due("no walk", x.mark(1, 0), BAD);
        due("run", x.run(false, 0, 0, 0, 400), RETURNED);
        due("no walk yet", x.ran(1, 0), BAD);
        due("returned", x.ran(0, 1), 4);
    }

    private static void fault() {
        topic = "promise 4";
        WaysAtlas x = new WaysAtlas();
        due("none yet", x.fault(), 0);
        Checks.compile(x, "method{v6=1;}", true);
        due("2", x.fault(), 2);
        due("2 again", x.fault(), 2);
        Checks.compile(x, "method{again;}", false);
        due("3", x.fault(), 3);
        Checks.compile(x, "method{", true);
        due("1", x.fault(), 1);
        Checks.compile(x, "method{}", false);
        due("none", x.fault(), 0);
    }

    private static void count() {
        topic = "promise 5";
        WaysAtlas x = Checks.made("kind under k1;kind under k7;method{guard{mark 1;}catch k1{}catch k0{}}method{return 1;}",
                true);
        int[] want = {3, 2, 9, 2, 0};
        for (int what = 0; what <= 4; what++) {
            due("count " + what, x.count(what), want[what]);
        }
        due("count -1", x.count(-1), BAD);
        due("count 5", x.count(5), BAD);
        due("plan", x.plan(1, 0, 5, 8), 1);
        due("count 4", x.count(4), 1);
    }

    private static void plan() {
        topic = "promise 6";
        WaysAtlas x = Checks.made("kind under k1;method{mark 1;with 2{}guard{}finally{}v0=1;with 3{}with 1{}}", true);
        due("mark", x.plan(0, 0, 1, 0), 1);
        due("the same once more", x.plan(0, 0, 1, 1), 2);
        int[][] parts = {{0}, {1, 2, 4, 5}, {}, {}, {1, 2, 3, 4, 5, 6}, {1, 4}};
        int n = 2;
        for (int s = 0; s < parts.length; s++) {
            for (int part = -1; part <= 7; part++) {
                boolean has = false;
                for (int p : parts[s]) {
                    has |= p == part;
                }
                n += has ? 1 : 0;
                due("part " + part + " of " + s, x.plan(s, part, 400, 7), has ? n : BAD);
            }
        }
        due("no statement", x.plan(-1, 0, 1, 0), BAD);
        due("no statement", x.plan(6, 0, 1, 0), BAD);
        due("time 0", x.plan(0, 0, 0, 0), BAD);
        due("time 401", x.plan(0, 0, 401, 0), BAD);
        due("time -1", x.plan(0, 0, -1, 0), BAD);
        due("no kind", x.plan(0, 0, 1, 8), BAD);
        due("kind -1", x.plan(0, 0, 1, -1), BAD);
        due("far part", x.plan(1, Integer.MAX_VALUE, 1, 0), BAD);
        due("far part", x.plan(1, Integer.MIN_VALUE, 1, 0), BAD);
        while (n < 30) {
            n++;
            due("entry " + n, x.plan(0, 0, 400, 2), n);
        }
        due("full", x.plan(0, 0, 1, 0), FULL);
        due("bad before full", x.plan(0, 1, 1, 0), BAD);
        due("entries", x.count(4), 30);
        due("run", x.run(false, 0, 0, 0, 400), THROWN);
        due("the first entry counts", x.failure(0, 0, 0), 0);
        planTimes();
    }

    private static void planTimes() {
        WaysAtlas x = Checks.made("method{loop 5{guard{mark 1;}catch k0{mark 2;}}}", false);
        due("plan", x.plan(2, 0, 2, 5), 1);
        due("plan", x.plan(2, 0, 4, 3), 2);
        for (int which = 0; which < 2; which++) {
            due("run", x.run(which == 1, 0, 0, 0, 400), RETURNED);
            int[] tape = {1, 2, 1, 2, 1, NONE};
            for (int i = 0; i < tape.length; i++) {
                due("mark " + i, x.mark(which, i), tape[i]);
            }
            due("made", x.ran(which, 4), 2);
            due("first", x.failure(which, 0, 0), 5);
            due("second", x.failure(which, 1, 0), 3);
            due("statement", x.failure(which, 1, 4), 2);
        }
    }

    private static void clear() {
        topic = "promise 7";
        WaysAtlas x = Checks.made("method{mark 1;}", true);
        due("empty", x.clear(), 0);
        x.plan(0, 0, 1, 0);
        x.plan(0, 0, 2, 0);
        due("run", x.run(false, 0, 0, 0, 400), THROWN);
        due("two", x.clear(), 2);
        due("none left", x.count(4), 0);
        due("none left", x.clear(), 0);
        due("the run stays", x.ran(0, 0), THROWN);
        due("run", x.run(false, 0, 0, 0, 400), RETURNED);
        due("room again", x.plan(0, 0, 1, 0), 1);
    }

    private static void run() {
        topic = "promise 8";
        WaysAtlas x = Checks.made("method{return v0-v1;}method{throw k4;}method{mark 1;mark 2;}", true);
        for (int which = 0; which < 2; which++) {
            boolean tree = which == 1;
            due("returned", x.run(tree, 0, 9, 4, 400), RETURNED);
            due("value", x.ran(which, 1), 5);
            due("thrown", x.run(tree, 1, 9, 4, 1), THROWN);
            due("spent", x.run(tree, 1, 9, 4, 0), SPENT);
            due("spent", x.run(tree, 2, 9, 4, 1), SPENT);
            due("one mark", x.ran(which, 3), 1);
            due("no method", x.run(tree, -1, 0, 0, 400), BAD);
            due("no method", x.run(tree, 3, 0, 0, 400), BAD);
            due("steps", x.run(tree, 0, 0, 0, -1), BAD);
            due("steps", x.run(tree, 0, 0, 0, 401), BAD);
            due("nothing is changed", x.ran(which, 3), 1);
            due("wrap", x.run(tree, 0, Integer.MIN_VALUE, 1, 1), RETURNED);
            due("value", x.ran(which, 1), Integer.MAX_VALUE);
        }
    }

    private static void ran() {
        topic = "promise 9";
        WaysAtlas x = Checks.made("method{guard{with 2{mark 4;v2=call m1(v0,0);throw k2;}}finally{v3=1;if v0=1{return 6;}}}"
                + "method{if v0=2{throw k3;}mark 5;}", true);
        int[][] want = {
            // ended, returned, ender, tape, made, opened, closed, lost, deepest, steps
            {THROWN, 0, 0, 2, 1, 2, 2, 0, 2, 13},
            {RETURNED, 6, NONE, 2, 1, 2, 2, 1, 2, 14},
            {THROWN, 0, 0, 1, 1, 2, 2, 0, 2, 12}};
        for (int which = 0; which < 2; which++) {
            due("no run yet", x.ran(which, 0), BAD);
            for (int a = 0; a < 3; a++) {
                x.run(which == 1, 0, a, 0, 400);
                for (int what = 0; what <= 9; what++) {
                    due("ran " + what + " with " + a, x.ran(which, what), want[a][what]);
                }
            }
            due("what -1", x.ran(which, -1), BAD);
            due("what 10", x.ran(which, 10), BAD);
            x.run(which == 1, 0, 0, 0, 6);
            int[] spent = {SPENT, 0, NONE, 1, 0, 2, 0, 0, 2, 6};
            for (int what = 0; what <= 9; what++) {
                due("ran " + what + ", spent", x.ran(which, what), spent[what]);
            }
        }
        due("which -1", x.ran(-1, 0), BAD);
        due("which 2", x.ran(2, 0), BAD);
    }

    private static void mark() {
        topic = "promise 10";
        WaysAtlas x = Checks.made("method{mark 3;mark 0;mark 9999;}", true);
        for (int which = 0; which < 2; which++) {
            due("no run", x.mark(which, 0), BAD);
            due("no run, i -1", x.mark(which, -1), BAD);
            x.run(which == 1, 0, 0, 0, 400);
            due("0", x.mark(which, 0), 3);
            due("1", x.mark(which, 1), 0);
            due("2", x.mark(which, 2), 9999);
            due("3", x.mark(which, 3), NONE);
            due("-1", x.mark(which, -1), NONE);
            due("far", x.mark(which, Integer.MAX_VALUE), NONE);
            due("far", x.mark(which, Integer.MIN_VALUE), NONE);
            x.run(which == 1, 0, 0, 0, 2);
            due("of the latest run", x.mark(which, 2), NONE);
        }
        due("which", x.mark(2, 0), BAD);
        due("which", x.mark(-1, 0), BAD);
    }

    private static void failure() {
        topic = "promise 11";
        WaysAtlas x = Checks.made("kind under k2;method{guard{call m1(v0,v1);}catch k1{guard{wrap k7;}catch k7{wrap k0;}}}"
                + "method{v0=v0/v1;}", false);
        int[][] want = {{2, NONE, NONE, NONE, 6, 2}, {7, 0, NONE, NONE, 3, 1}, {0, 1, NONE, NONE, 4, 1}};
        for (int which = 0; which < 2; which++) {
            due("no run", x.failure(which, 0, 0), BAD);
            x.run(which == 1, 0, 1, 0, 400);
            for (int i = 0; i < 3; i++) {
                for (int what = 0; what <= 5; what++) {
                    // The statement of m1 is the fifth one.
                    int due = i == 0 && what == 4 ? 5 : want[i][what];
                    due("failure " + i + ", " + what, x.failure(which, i, what), due);
                }
                due("what -1", x.failure(which, i, -1), BAD);
                due("what 6", x.failure(which, i, 6), BAD);
            }
            due("3", x.failure(which, 3, 0), NONE);
            due("-1", x.failure(which, -1, 0), NONE);
            due("bad before none", x.failure(which, -1, 6), BAD);
            due("ender", x.ran(which, 2), 2);
            x.run(which == 1, 0, 1, 1, 400);
            due("of the latest run", x.failure(which, 0, 0), NONE);
        }
        due("which", x.failure(2, 0, 0), BAD);
        due("which", x.failure(-1, 0, 0), BAD);
    }

    private static void suppressed() {
        topic = "promise 11, suppressed";
        WaysAtlas x = Checks.made("method{loop 2{guard{with 3{throw k3;}catch k3{with 2{again;}}}catch k0{}}}", true);
        x.plan(2, 6, 1, 4);
        x.plan(2, 5, 1, 5);
        x.plan(2, 4, 1, 6);
        x.plan(4, 5, 1, 2);
        x.plan(4, 4, 1, 1);
        // The second time: the first one on its way is that of a closing.
        x.plan(2, 3, 2, 0);
        x.plan(2, 5, 2, 2);
        for (int which = 0; which < 2; which++) {
            due("run", x.run(which == 1, 0, 0, 0, 400), RETURNED);
            int[][] want = {{3, 1, NONE, 3, 1}, {4, NONE, 2, 2, 1}, {5, NONE, 3, 2, 1}, {6, NONE, 4, 2, 1},
                {2, NONE, 5, 4, 1}, {1, NONE, NONE, 4, 1}, {0, 7, NONE, 2, 1}, {2, NONE, NONE, 2, 1}};
            due("made", x.ran(which, 4), want.length);
            for (int i = 0; i < want.length; i++) {
                due(i + " kind", x.failure(which, i, 0), want[i][0]);
                due(i + " cause", x.failure(which, i, 1), NONE);
                due(i + " first", x.failure(which, i, 2), want[i][1]);
                due(i + " next", x.failure(which, i, 3), want[i][2]);
                due(i + " statement", x.failure(which, i, 4), want[i][3]);
                due(i + " depth", x.failure(which, i, 5), want[i][4]);
            }
            due("lost", x.ran(which, 7), 0);
            due("opened", x.ran(which, 5), 7);
            due("closed", x.ran(which, 6), 7);
        }
        due("same", x.same(0, 0, 0), 1);
    }

    private static void trace() {
        topic = "promise 12";
        WaysAtlas x = Checks.made("method{mark 1;v2=call m2(v0,0);}method{}method{if v0<3{call m2(v0+1,0);}else{with 1{}}}", true);
        x.plan(5, 4, 1, 1);
        for (int which = 0; which < 2; which++) {
            due("no run", x.trace(which, 0, 0), BAD);
            x.run(which == 1, 0, 1, 0, 400);
            int[] want = {2004, 2003, 2003, 1};
            x.clear();
            x.plan(4, 4, 1, 1);
            due("run", x.run(which == 1, 0, 1, 0, 400), THROWN);
            for (int k = 0; k < want.length; k++) {
                due("trace " + k, x.trace(which, 0, k), want[k]);
            }
            due("no activation", x.trace(which, 0, 4), NONE);
            due("k -1", x.trace(which, 0, -1), NONE);
            due("k far", x.trace(which, 0, Integer.MAX_VALUE), NONE);
            due("no exception", x.trace(which, 1, 0), NONE);
            due("no exception", x.trace(which, -1, 0), NONE);
            due("depth", x.failure(which, 0, 5), 4);
        }
        due("which", x.trace(2, 0, 0), BAD);
        due("which", x.trace(-1, 0, 0), BAD);
    }

    private static void closed() {
        topic = "promise 13";
        WaysAtlas x = Checks.made("method{with 2{with 1{}}with 3{return 1;}}", true);
        int[] want = {2, 1, 0, 5, 4, 3};
        for (int which = 0; which < 2; which++) {
            due("no run", x.closed(which, 0), BAD);
            due("run", x.run(which == 1, 0, 0, 0, 400), RETURNED);
            for (int i = 0; i < want.length; i++) {
                due("closed " + i, x.closed(which, i), want[i]);
            }
            due("6", x.closed(which, 6), NONE);
            due("-1", x.closed(which, -1), NONE);
            // With one step less the last closing is missing.
            due("run", x.run(which == 1, 0, 0, 0, x.ran(which, 9) - 1), SPENT);
            due("the last one but one", x.closed(which, 4), 4);
            due("the last one", x.closed(which, 5), NONE);
            due("opened", x.ran(which, 5), 6);
            due("closed", x.ran(which, 6), 5);
        }
        due("which", x.closed(2, 0), BAD);
        due("which", x.closed(-1, 0), BAD);
    }

    private static void entered() {
        topic = "promise 14";
        WaysAtlas x = Checks.made("method{loop v0{guard{if v0=3{leave 1;}}finally{}}with 1{}finally{mark 1;}guard{}catch k0{}mark 1;}",
                false);
        for (int which = 0; which < 2; which++) {
            due("no run", x.entered(which, 1), BAD);
            x.run(which == 1, 0, 2, 0, 400);
            due("guard", x.entered(which, 1), 2);
            due("with", x.entered(which, 4), 1);
            int[] others = {0, 2, 3, 5, 6, 7, 8, -1, 80, Integer.MAX_VALUE, Integer.MIN_VALUE};
            for (int s : others) {
                due("statement " + s, x.entered(which, s), BAD);
            }
            x.run(which == 1, 0, 3, 0, 400);
            due("left", x.entered(which, 1), 1);
            x.run(which == 1, 0, 0, 0, 400);
            due("no turn", x.entered(which, 1), 0);
            x.run(which == 1, 0, 1, 0, 4);
            due("entered before it is spent", x.entered(which, 1), 1);
            x.run(which == 1, 0, 1, 0, 3);
            due("spent before", x.entered(which, 1), 0);
        }
        due("which", x.entered(2, 1), BAD);
        due("which", x.entered(-1, 1), BAD);
    }

    private static void handler() {
        topic = "promise 15";
        WaysAtlas x = Checks.made("kind under k2;method{guard{guard{}catch k2{}catch k7{}catch k2{}catch k1{}}catch k1{"
                + "with 1{}catch k0{}}catch k7{}catch k0{}finally{}}", true);
        int[][] want = {{1, 2, 0}, {1, 7, 1}, {1, 2, 1}, {1, 1, 0}, {0, 1, 0}, {2, 0, 0}, {0, 7, 1}, {0, 0, 0}};
        for (int i = 0; i < want.length; i++) {
            for (int what = 0; what < 3; what++) {
                due("handler " + i + ", " + what, x.handler(i, what), want[i][what]);
            }
            due("what -1", x.handler(i, -1), BAD);
            due("what 3", x.handler(i, 3), BAD);
        }
        due("8", x.handler(8, 0), BAD);
        due("-1", x.handler(-1, 0), BAD);
    }

    private static void ways() {
        topic = "promise 16";
        WaysAtlas x = Checks.made("method{mark 1;guard{mark 2;}catch k1{mark 3;}catch k0{mark 4;}}method{}", true);
        // As it is: the tape ends with 2; the first mark throws; the second one throws and 4 is marked.
        due("three", x.ways(0, 0, 0), 3);
        due("one", x.ways(1, 0, 0), 1);
        due("no method", x.ways(2, 0, 0), BAD);
        due("no method", x.ways(-1, 0, 0), BAD);
        due("no run of it", x.ran(0, 0), BAD);
        due("no walk of it", x.ran(1, 0), BAD);
        x.plan(0, 0, 1, 3);
        due("the plan does not count", x.ways(0, 0, 0), 3);
        due("and stays", x.count(4), 1);
        x.run(false, 0, 0, 0, 400);
        x.run(true, 1, 0, 0, 400);
        due("again", x.ways(0, 0, 0), 3);
        due("the run stays", x.failure(0, 0, 0), 3);
        due("the walk stays", x.ran(1, 0), RETURNED);
        // Each passing gives another number that is returned, but only the first 60 are tried.
        x = Checks.made("method{loop v0{v1=v1+1;guard{mark 1;}catch k0{return v1;}}}", false);
        due("no turn", x.ways(0, 0, 0), 1);
        due("59", x.ways(0, 59, 0), 60);
        due("60", x.ways(0, 60, 0), 61);
        due("61", x.ways(0, 61, 0), 61);
        // Spent runs differ in the last number on the tape, and so do thrown ones; openings and closings count.
        x = Checks.made("method{with 1{mark 1;}finally{mark 2;}}", true);
        due("with", x.ways(0, 0, 0), 3);
        x = Checks.made("method{guard{mark 1;}catch k0{throw k2;}guard{mark 2;}catch k0{throw k3;}mark 3;loop 999{}}", true);
        due("kinds", x.ways(0, 0, 0), 4);
    }

    private static void same() {
        topic = "promise 17";
        WaysAtlas x = Checks.made("method{with 2{mark 1;}finally{mark 2;}}method{return v0/v1;}", true);
        due("same", x.same(0, 0, 0), 1);
        due("same", x.same(1, 6, 0), 1);
        due("no method", x.same(2, 0, 0), BAD);
        due("no method", x.same(-1, 0, 0), BAD);
        due("no run of it", x.ran(0, 0), BAD);
        due("no walk of it", x.ran(1, 0), BAD);
        x.run(false, 1, 4, 2, 400);
        x.run(true, 1, 6, 2, 400);
        x.plan(0, 4, 1, 2);
        due("same", x.same(0, 0, 0), 1);
        due("the plan stays", x.count(4), 1);
        due("the run stays", x.ran(0, 1), 2);
        due("the walk stays", x.ran(1, 1), 3);
    }

    /** What a method with this body returns of 7 and -3, in both ways; or -100 - the kind that it throws. */
    private static int result(String body, boolean shared) {
        WaysAtlas x = Checks.made(in(body), shared);
        int[] results = new int[2];
        for (int which = 0; which < 2; which++) {
            int ended = x.run(which == 1, 0, 7, -3, 400);
            results[which] = ended == RETURNED ? x.ran(which, 1)
                    : ended == THROWN ? -100 - x.failure(which, x.ran(which, 2), 0) : -300;
        }
        due("both ways of " + body, results[1], results[0]);
        due("same of " + body, x.same(0, 7, -3), 1);
        return results[0];
    }

    private static void gives(String body, int want) {
        due(body, result(body, true), want);
        due(body + " copied", result(body, false), want);
    }

    private static void sums() {
        topic = "sums";
        gives("return 2+3*4;", 14);
        gives("return (2+3)*4;", 20);
        gives("return 10-4-3;", 3);
        gives("return 100/7/2;", 7);
        gives("return 100%7*3;", 6);
        gives("return 7*3%4;", 1);
        gives("return -v1*-2;", -6);
        gives("return 2--3;", 5);
        gives("return --v1;", -3);
        gives("return -(1+2)*3;", -9);
        gives("return v0/v1;", -2);
        gives("return v0%v1;", 1);
        gives("return v1/2;", -1);
        gives("return v1%2;", -1);
        gives("return v0/v2;", -102);
        gives("return v0%(v1+3);", -102);
        gives("return 0007;", 7);
        gives("v2=9999*9999*9999;return v2;", 9999 * 9999 * 9999);
        gives("v2=0-8192*8192*32;return v2/(0-1);", Integer.MIN_VALUE);
        gives("v2=0-8192*8192*32;return v2%(0-1);", 0);
        gives("v2=0-8192*8192*32;return -v2;", Integer.MIN_VALUE);
        gives("v2=8192*8192*32;return v2-1;", Integer.MAX_VALUE);
        gives("return v2+v3+v4+v5;", 0);
        gives("v5=5;v0=v5;return v0+v5;", 10);
        // The first exception in the order of evaluation counts.
        gives("return 1/0+size r0;", -102);
        gives("return size r0+1/0;", -104);
        gives("return r0[1/0];", -102);
        gives("return 0*(1/0);", -102);
        gives("if 1/0=size r0{}", -102);
        gives("if size r0>1/0{}", -104);
        gives("call m0(1/0,size r0);", -102);
        gives("call m0(size r0,1/0);", -104);
        gives("call m0(0,0);", -106);
        gives("loop size r0{}", -104);
        gives("v0=9;v0=1/0;", -102);
        gives("guard{v0=1/0;}catch k0{return v0;}", 7);
    }

    private static void rows() {
        topic = "rows";
        gives("r0=row 3;r0[1]=5;return r0[1]*10+r0[2];", 50);
        gives("r0=row 8;return size r0;", 8);
        gives("r0=row 8;r0[7]=5;r0[0]=2;return r0[7]+r0[0]+r0[6];", 7);
        gives("r0=row 0;return size r0;", 0);
        gives("r0=row 0;return r0[0];", -103);
        gives("r0=row 9;", -105);
        gives("r0=row -1;", -105);
        gives("r0=row 8192*8192*32;", -105);
        gives("r0=row 1/0;", -102);
        gives("return size r2;", -104);
        gives("return r2[0];", -104);
        gives("r2[0]=1;", -104);
        gives("r0=row 2;return r0[2];", -103);
        gives("r0=row 2;return r0[-1];", -103);
        gives("r0=row 2;r0[2]=1;", -103);
        gives("r0=row 2;r0[-1]=1;", -103);
        gives("r0=row 2;r0[8192*8192*32-1]=1;", -103);
        gives("r0=row 2;return r0[8192*8192*32-1];", -103);
        gives("r0[1/0]=size r1;", -102);
        gives("r0[size r1]=1/0;", -104);
        gives("r0[0]=1/0;", -102);
        gives("r0=row 2;r1=r0;r1[1]=4;r0=none;return r1[1];", 4);
        gives("r0=row 2;r1=r0;r1[1]=4;return r0[1];", 4);
        gives("r0=row 2;r0[0]=6;r1=r0;r0=row 2;return r1[0]*10+r0[0];", 60);
        gives("r0=row 2;r0=none;return size r0;", -104);
        gives("r1=row 2;v5=3;r1=none;return size r1;", -104);
        gives("r2=row 2;v5=3;r2=none;return size r2;", -104);
        gives("r2=row 2;r2=r1;return size r2;", -104);
        gives("r0=row 2;r0=r1;return size r0;", -104);
        gives("r0=row 2;guard{r0=row 9;}catch k5{return size r0;}", 2);
        gives("r0=row 3;r0[0]=1;r0[1]=2;r0[2]=0;return 7*r0[r0[0]]+r0[r0[r0[0]]];", 14);
        WaysAtlas x = Checks.made("method{r0=row 2;r0[1]=3;v2=call m1(v0,v1);return v2+r0[1];}method{guard{return size r0;}"
                + "catch k4{r0=row 1;r0[0]=9;v0=5;return v0+v1;}}", true);
        due("own variables and rows", x.run(false, 0, 1, 2, 400), RETURNED);
        due("returned", x.ran(0, 1), 10);
        due("same", x.same(0, 1, 2), 1);
    }

    private static void flow() {
        topic = "flow";
        gives("", 0);
        gives("v0=1;", 0);
        gives("if v0=7{return 1;}return 2;", 1);
        gives("if v0<7{return 1;}return 2;", 2);
        gives("if v0>7{return 1;}else{return 3;}", 3);
        gives("if v1<0{}else{return 3;}return 4;", 4);
        gives("if v1>v0{return 3;}return 4;", 4);
        gives("loop 3{v2=v2+1;}return v2;", 3);
        gives("loop 0{v2=v2+1;}return v2;", 0);
        gives("loop v1{v2=v2+1;}return v2;", 0);
        gives("v3=2;loop v3{v3=9;v2=v2+1;}return v2;", 2);
        gives("loop 5{v2=v2+1;if v2=3{leave 1;}}return v2;", 3);
        gives("loop 5{v2=v2+1;next 1;v2=99;}return v2;", 5);
        gives("loop 3{loop 3{v2=v2+1;if v2=4{leave 2;}}}return v2;", 4);
        gives("loop 3{loop 3{v2=v2+1;next 2;}v2=v2+100;}return v2;", 3);
        gives("loop 3{loop 3{v2=v2+1;leave 1;}v2=v2+100;}return v2;", 303);
        gives("loop 3{loop 3{v2=v2+1;next 1;}v2=v2+100;}return v2;", 309);
        gives("loop 2{loop 9{v2=v2+1;return v2;}}", 1);
        gives("loop 9999{}", -300);
        // 12 methods may be executed at the same time; 11 calls are open in the deepest one.
        WaysAtlas x = Checks.made("method{if v0<v1{v2=call m0(v0+1,v1);return v2+1;}return 1;}", true);
        due("12", x.run(true, 0, 0, 11, 400), RETURNED);
        due("returned", x.ran(1, 1), 12);
        due("deepest", x.ran(1, 8), 12);
        due("13", x.run(false, 0, 0, 12, 400), THROWN);
        due("kind", x.failure(0, 0, 0), 6);
        due("statement", x.failure(0, 0, 4), 1);
        due("depth", x.failure(0, 0, 5), 12);
        due("deepest", x.ran(0, 8), 12);
        due("same", x.same(0, 0, 12), 1);
        // The sums of a call are evaluated before it is too deep.
        x = Checks.made("method{if v0=11{call m0(1/0,0);}call m0(v0+1,0);}", false);
        x.run(false, 0, 0, 0, 400);
        due("division", x.failure(0, 0, 0), 2);
        due("depth", x.failure(0, 0, 5), 12);
    }

    private static void guards() {
        topic = "guards";
        gives("guard{throw k3;}catch k2{return 2;}catch k3{return 3;}catch k0{return 9;}", 3);
        gives("guard{throw k3;}catch k1{return 1;}catch k3{return 3;}", 1);
        gives("guard{throw k0;}catch k1{return 1;}", -100);
        gives("guard{throw k1;}catch k2{return 1;}", -101);
        gives("guard{throw k3;}catch k3{throw k4;}catch k4{return 4;}", -104);
        gives("guard{throw k3;}catch k3{}return 5;", 5);
        gives("guard{return 1;}finally{v2=9;}", 1);
        gives("guard{return v2;}finally{v2=9;}", 0);
        gives("guard{return 1;}finally{return 2;}", 2);
        gives("guard{throw k3;}finally{return 2;}", 2);
        gives("guard{return 1;}finally{throw k3;}", -103);
        gives("guard{throw k2;}finally{throw k3;}", -103);
        gives("guard{throw k2;}catch k2{return 5;}finally{v2=1;}", 5);
        gives("guard{throw k2;}catch k2{throw k3;}finally{return 6;}", 6);
        gives("loop 3{guard{leave 1;}finally{v2=v2+1;}}return v2;", 1);
        gives("loop 3{guard{next 1;}finally{v2=v2+1;}}return v2;", 3);
        gives("loop 3{guard{return 1;}finally{v2=v2+1;next 1;}}return v2;", 3);
        gives("loop 3{guard{throw k5;}finally{leave 1;}}return 8;", 8);
        gives("loop 3{guard{leave 1;}finally{v2=v2+1;next 1;}}return v2;", 3);
        gives("loop 3{guard{next 1;}finally{v2=v2+1;leave 1;}}return v2;", 1);
        // A return that another one, which is cancelled, has passed.
        gives("guard{return 1;}finally{loop 1{guard{return 2;}finally{leave 1;}}}", 1);
        gives("guard{guard{return 1;}finally{v2=3;}}finally{loop 1{guard{guard{return 2;}finally{}}finally{leave 1;}}}", 1);
        gives("guard{throw k3;}finally{guard{throw k4;}catch k4{}}", -103);
        gives("guard{throw k3;}finally{loop 1{guard{throw k4;}finally{leave 1;}}}", -103);
        gives("guard{guard{throw k3;}finally{throw k4;}}catch k3{return 3;}catch k4{return 4;}", 4);
        gives("guard{throw k3;}catch k3{guard{again;}catch k3{return 1;}}", 1);
        gives("guard{throw k3;}catch k0{guard{throw k4;}catch k4{}guard{again;}catch k3{return 6;}}", 6);
        gives("guard{throw k3;}catch k0{guard{throw k4;}catch k4{again;}}", -104);
        gives("guard{throw k3;}catch k0{guard{throw k4;}catch k4{}finally{again;}}", -103);
        gives("guard{v2=call m0(0,0);return v2+1;}catch k6{return 4;}", 15);
        lost("guard{guard{throw k3;}finally{throw k4;}}finally{return 1;}", 2);
        lost("guard{throw k3;}finally{guard{throw k4;}catch k0{}}", 0);
        lost("guard{throw k3;}finally{guard{throw k4;}finally{return 1;}}", 2);
        lost("loop 2{guard{throw k3;}finally{next 1;}}", 2);
        lost("loop 2{guard{throw k3;}finally{leave 1;}}", 1);
        lost("guard{return 1;}finally{return 2;}", 0);
        lost("guard{return 1;}finally{throw k3;}", 0);
        lost("guard{throw k3;}catch k3{throw k4;}finally{return 2;}", 1);
        lost("guard{throw k3;}catch k3{return 4;}finally{return 2;}", 0);
        lost("guard{throw k3;}finally{loop 9999{}}", 0);
        lost("guard{throw k3;}catch k3{loop 2{guard{again;}finally{next 1;}}}", 2);
        lost("loop 1{guard{throw k3;}finally{guard{leave 1;}finally{loop 9999{}}}}", 0);
        lost("loop 1{guard{guard{throw k3;}finally{leave 1;}}finally{loop 9999{}}}", 1);
        lost("guard{throw k3;}finally{loop 2{guard{throw k4;}finally{next 1;}}}", 2);
    }

    private static void lost(String body, int want) {
        for (int shared = 0; shared < 2; shared++) {
            WaysAtlas x = Checks.made(in(body), shared == 1);
            for (int which = 0; which < 2; which++) {
                x.run(which == 1, 0, 7, -3, 400);
                due("lost by " + body, x.ran(which, 7), want);
            }
        }
    }

    /** A run with one entry of the plan a number: statement * 1000 + part * 100 + time * 10 + kind. */
    private static WaysAtlas planned(String body, int... entries) {
        WaysAtlas x = Checks.made(in(body), entries.length % 2 == 0);
        for (int e : entries) {
            x.plan(e / 1000, e / 100 % 10, e / 10 % 10, e % 10);
        }
        due("entries for " + body, x.count(4), entries.length);
        x.run(false, 0, 7, -3, 400);
        due("same of " + body, x.same(0, 7, -3), 1);
        return x;
    }

    private static void resources() {
        topic = "resources";
        WaysAtlas x = planned("with 2{return 3;}");
        due("returned", x.ran(0, 1), 3);
        due("steps", x.ran(0, 9), 6);
        x = planned("with 3{return 3;}catch k5{mark 5;return 4;}finally{mark 6;}", 215);
        due("the second opening throws", x.failure(0, 0, 0), 5);
        due("caught", x.ran(0, 1), 4);
        due("opened", x.ran(0, 5), 1);
        due("closed", x.ran(0, 6), 1);
        due("marks", x.ran(0, 3), 2);
        due("last", x.mark(0, 1), 6);
        x = planned("with 3{return 3;}catch k5{mark 5;return 4;}", 115);
        due("the first opening throws", x.ran(0, 5), 0);
        due("caught", x.ran(0, 1), 4);
        due("closed", x.ran(0, 6), 0);
        x = planned("with 3{return 3;}catch k5{mark 5;return 4;}", 315, 414, 513);
        due("the third opening throws", x.ran(0, 5), 2);
        due("closed", x.ran(0, 6), 2);
        due("the last one first", x.failure(0, 0, 2), 1);
        due("its kind", x.failure(0, 1, 0), 3);
        due("then the first one", x.failure(0, 1, 3), 2);
        due("its kind", x.failure(0, 2, 0), 4);
        due("returned", x.ran(0, 1), 4);
        x = planned("loop 2{with 1{leave 1;}catch k5{}v2=v2+1;}return v2;", 1415);
        due("in place of leave", x.ran(0, 1), 1);
        x = planned("loop 2{with 1{next 1;}catch k5{}v2=v2+1;}return v2;", 1415);
        due("in place of next", x.ran(0, 1), 1);
        x = planned("with 2{return 1;}", 515, 414);
        due("in place of return", x.ran(0, 0), THROWN);
        due("the first closing", x.failure(0, x.ran(0, 2), 0), 5);
        due("the second one under it", x.failure(0, 0, 2), 1);
        due("both closed", x.ran(0, 6), 2);
        due("none lost", x.ran(0, 7), 0);
        x = planned("guard{with 2{throw k3;}catch k3{mark 1;}finally{mark 2;}}finally{mark 3;}", 1515);
        due("closed before a catch", x.mark(0, 0), 1);
        due("returned", x.ran(0, 0), RETURNED);
        due("suppressed", x.failure(0, 0, 2), 1);
        // An exception behind a way out that is not taken.
        String[] outs = {"leave 1;", "next 1;", "return 1;"};
        for (String out : outs) {
            x = planned("loop 1{with 2{if v0=9{" + out + "}throw k3;}catch k3{mark 3;}finally{mark 4;}}");
            due("closed in spite of " + out, x.ran(0, 6), 2);
            due("caught", x.mark(0, 0), 3);
            x = planned("loop 1{with 2{if v0=9{" + out + "}}catch k5{mark 5;}}", 1515);
            due("closed in spite of " + out, x.ran(0, 6), 2);
            due("caught", x.mark(0, 0), 5);
        }
        x = planned("with 1{}catch k5{return 6;}", 415);
        due("a closing's exception is caught", x.ran(0, 1), 6);
        x = planned("with 1{}catch k5{again;}finally{return 8;}", 415);
        due("and lost", x.ran(0, 7), 1);
        due("returned", x.ran(0, 1), 8);
    }
}
