import java.util.ArrayList;
import java.util.List;

/** Each sentence of the document on the promises' calls and their answers that names a boundary case. */
public final class CallBoundariesTest extends Sentences {
    /** Statement 1 is a with 2 in a guard with finally; 4 throws if the second number is 0. */
    private static final String RICH = "kind under k1;method{guard{with 2{mark 1;v2=call m1(v0,v1);}finally{mark 2;}}catch k2{"
            + "wrap k7;}finally{mark 3;}return v2;}method{return v0/v1;}";
    private static final int[] WRONG_RUNS = {LEAST, -9, -1, 2, 3, MOST};

    public static void main(String[] args) {
        manyCalls();
        constants();
        badAndFull();
        changesNothing();
        none();
        newObject();
        say();
        compile();
        fault();
        count();
        plan();
        clear();
        run();
        ran();
        mark();
        failure();
        trace();
        closed();
        entered();
        handler();
        ways();
        same();
        end("CallBoundariesTest");
    }

    /** Runs of both ways that end by exception 1, with 0 as its cause. */
    private static WaysAtlas thrown() {
        WaysAtlas x = Checks.made(RICH, true);
        due("run", x.run(false, 0, 6, 0, 400), THROWN);
        due("walk", x.run(true, 0, 6, 0, 400), THROWN);
        return x;
    }

    private static void manyCalls() {
        sentence("An object is used for at most 512 calls after it has been made;");
        for (int way = 0; way < 2; way++) {
            WaysAtlas x = new WaysAtlas();
            due("compile", Checks.compile(x, RICH, way == 0), 9);
            int calls = (RICH.length() + 7) / 8 + 1;
            for (; calls < 510; calls++) {
                due("run", x.run(tree(calls % 2), 0, calls, 3, 400), RETURNED);
            }
            due("the 511th", x.ran(0, 1), 508 / 3);
            due("the 512th", x.ran(1, 1), 509 / 3);
        }
        // Each of 512 calls takes as much room as it can.
        WaysAtlas x = new WaysAtlas();
        String full = "method{" + "with 3{v0=1;}".repeat(40) + "}";
        due("compile", Checks.compile(x, full, false), 80);
        int calls = (full.length() + 7) / 8 + 1;
        int ways = x.ways(0, 0, 0);
        for (calls++; calls < 512; calls++) {
            due("ways", x.ways(0, 0, 0), ways);
        }
        // As many programs with as many handlers as 512 calls can bring.
        for (int way = 0; way < 2; way++) {
            x = new WaysAtlas();
            for (int i = 0; i < 4; i++) {
                due("compile", Checks.compile(x, in("with 3{}catchk0{}".repeat(58)), way == 0), 58);
            }
            due("run", x.run(false, 0, 0, 0, 400), SPENT);
            due("opened", x.ran(0, 5), 171);
            due("same", x.same(0, 0, 0), 1);
            // And with the longest sums.
            x = new WaysAtlas();
            for (int i = 0; i < 5; i++) {
                String sum = "return v0" + (i % 2 == 0 ? "+1".repeat(490) : "") + ";";
                due("compile", Checks.compile(x, in(sum), way == 0), 1);
            }
            due("run", x.run(way == 0, 0, 8, 0, 400), RETURNED);
            due("returned", x.ran(1 - way, 1), 498);
            due("same", x.same(0, 9, 0), 1);
        }
        x = new WaysAtlas();
        for (int i = 0; i < 125; i++) {
            x.say(0x2020202020202020L, 8);
        }
        for (int i = 125; i < 512; i++) {
            due("full", x.say(i, 1 + i % 8), FULL);
        }
    }

    private static void constants() {
        sentence("public static final int BAD = -1, FULL = -2, NONE = -9;");
        due("BAD", WaysAtlas.BAD, -1);
        due("FULL", WaysAtlas.FULL, -2);
        due("NONE", WaysAtlas.NONE, -9);
        sentence("`RETURNED = 0, THROWN = 1, SPENT = 2`: How a run ended: the first method returned, an exception left it, or the run "
                + "was spent.");
        due("RETURNED", WaysAtlas.RETURNED, 0);
        due("THROWN", WaysAtlas.THROWN, 1);
        due("SPENT", WaysAtlas.SPENT, 2);
        each("method{}method{throw k0;}", (x, which) -> {
            due("returned", x.run(tree(which), 0, 0, 0, 0), RETURNED);
            due("thrown", x.run(tree(which), 1, 0, 0, 1), THROWN);
            due("spent", x.run(tree(which), 1, 0, 0, 0), SPENT);
        });
    }

    private static void badAndFull() {
        sentence("BAD (-1): an argument is out of its range, names something that does not exist, or needs a program or a run that is "
                + "not there.");
        WaysAtlas none = new WaysAtlas();
        int[] needAProgram = {none.count(0), none.count(1), none.count(2), none.count(3), none.plan(0, 0, 1, 0),
            none.run(false, 0, 0, 0, 400), none.run(true, 0, 0, 0, 400), none.handler(0, 0), none.ways(0, 0, 0), none.same(0, 0, 0)};
        for (int i = 0; i < needAProgram.length; i++) {
            due("without a program, " + i, needAProgram[i], BAD);
        }
        for (int which = 0; which < 2; which++) {
            WaysAtlas idle = Checks.made(RICH, true);
            due("a run that is not made", idle.run(tree(which), 0, 6, 0, 401), BAD);
            due("a run of the other way", idle.run(tree(1 - which), 0, 6, 0, 400), THROWN);
            int[] needARun = {idle.ran(which, 0), idle.mark(which, 0), idle.failure(which, 0, 0), idle.trace(which, 0, 0),
                idle.closed(which, 0), idle.entered(which, 1)};
            for (int i = 0; i < needARun.length; i++) {
                due("without a run, " + i, needARun[i], BAD);
            }
        }
        sentence("FULL (-2): there is no room. If both apply, BAD is returned.");
        WaysAtlas x = Checks.made(RICH, true);
        for (int i = 0; i < 125; i++) {
            x.say(0, 8);
        }
        for (int i = 1; i <= 30; i++) {
            due("entry", x.plan(2, 0, i, 0), i);
        }
        for (int n : new int[] {LEAST, -1, 0, 9, MOST}) {
            due("bytes", x.say(0, n), BAD);
        }
        due("room for bytes", x.say(0, 1), FULL);
        int[][] wrong = {{9, 0, 1, 0}, {-1, 0, 1, 0}, {2, 1, 1, 0}, {1, 0, 1, 0}, {2, -1, 1, 0}, {1, 7, 1, 0}, {2, 0, 0, 0},
            {2, 0, 401, 0}, {2, 0, 1, 8}, {2, 0, 1, -1}};
        for (int[] w : wrong) {
            due("entry", x.plan(w[0], w[1], w[2], w[3]), BAD);
        }
        due("room for entries", x.plan(2, 0, 1, 0), FULL);
    }

    /** All that can be asked for of an object, but for its text. */
    private static List<Integer> asked(WaysAtlas x) {
        List<Integer> all = new ArrayList<>();
        all.add(x.fault());
        for (int what = 0; what <= 4; what++) {
            all.add(x.count(what));
        }
        for (int which = 0; which < 2; which++) {
            for (int what = 0; what <= 9; what++) {
                all.add(x.ran(which, what));
            }
            for (int i = 0; i < 3; i++) {
                all.add(x.mark(which, i));
                all.add(x.closed(which, i));
                all.add(x.entered(which, i));
                for (int what = 0; what <= 5; what++) {
                    all.add(x.failure(which, i, what));
                }
                for (int k = 0; k < 3; k++) {
                    all.add(x.trace(which, i, k));
                }
            }
        }
        all.add(x.handler(0, 1));
        return all;
    }

    private static void changesNothing() {
        sentence("A call that returns one of them changes nothing.");
        WaysAtlas x = thrown();
        Checks.say(x, "method{v6=1;}");
        due("fault", x.compile(true), -107);
        Checks.say(x, "method{mark 1;}" + " ".repeat(981));
        for (int i = 1; i <= 30; i++) {
            x.plan(2, 0, 400, i % 7);
        }
        List<Integer> before = asked(x);
        int[] answers = {x.say(0x3f3f3f3f3fL, 5), x.say(0x3f3f3f3f3f3f3f3fL, 8), x.plan(2, 0, 400, 0)};
        for (int answer : answers) {
            due("full", answer, FULL);
        }
        int[] bad = {x.say('?', 0), x.say('?', 9), x.say('?', -1), x.count(5), x.count(-1), x.plan(0, 0, 1, 0), x.plan(2, 0, 0, 0),
            x.plan(2, 0, 1, 8), x.run(false, 2, 0, 0, 400), x.run(true, 2, 0, 0, 400), x.run(false, 0, 1, 1, 401),
            x.run(true, 0, 1, 1, 401), x.run(false, 0, 1, 1, -1), x.run(true, 0, 1, 1, -1), x.run(false, -1, 1, 1, 400), x.ran(2, 0),
            x.ran(0, 10), x.mark(2, 0), x.failure(0, 0, 6), x.trace(2, 0, 0), x.closed(2, 0), x.entered(0, 2), x.handler(1, 0),
            x.ways(2, 0, 0), x.ways(-1, 0, 0), x.same(2, 0, 0), x.same(-1, 0, 0)};
        for (int i = 0; i < bad.length; i++) {
            due("call " + i, bad[i], BAD);
        }
        List<Integer> after = asked(x);
        for (int i = 0; i < before.size(); i++) {
            due("question " + i, after.get(i), before.get(i));
        }
        due("the text has room as before", x.say(0x20202020, 4), 1000);
        due("the text is what it was", x.compile(true), 1);
    }

    private static void none() {
        sentence("NONE (-9) means that there is no such value; it is returned only if BAD does not apply.");
        WaysAtlas x = thrown();
        for (int i : new int[] {LEAST, -9, -1, 2, 99, MOST}) {
            for (int which = 0; which < 2; which++) {
                due("failure", x.failure(which, i, 0), NONE);
                due("trace", x.trace(which, i, 0), NONE);
                due("failure", x.failure(which, i, 6), BAD);
                due("failure", x.failure(which, i, -1), BAD);
            }
            for (int which : new int[] {-1, 2}) {
                due("mark", x.mark(which, i), BAD);
                due("failure", x.failure(which, i, 0), BAD);
                due("trace", x.trace(which, i, i), BAD);
                due("closed", x.closed(which, i), BAD);
                due("entered", x.entered(which, i), BAD);
            }
        }
        due("cause", x.failure(0, 0, 1), NONE);
        due("what is no value of a run that returned", x.run(false, 0, 6, 2, 400), RETURNED);
        due("ender", x.ran(0, 2), NONE);
    }

    private static void newObject() {
        sentence("Creates an interpreter without a program, with an empty text and an empty plan.");
        WaysAtlas x = new WaysAtlas();
        for (int what = -1; what <= 5; what++) {
            due("count " + what, x.count(what), what == 4 ? 0 : BAD);
        }
        due("empty plan", x.clear(), 0);
        due("no method", x.run(false, 0, 0, 0, 400), BAD);
        due("no method", x.run(true, 0, 0, 0, 0), BAD);
        due("no method", x.ways(0, 0, 0), BAD);
        due("no method", x.same(0, 0, 0), BAD);
        due("no statement", x.plan(0, 0, 1, 0), BAD);
        due("no catch", x.handler(0, 0), BAD);
        for (int which = 0; which < 2; which++) {
            due("no run", x.ran(which, 0), BAD);
            due("no run", x.mark(which, 0), BAD);
            due("no run", x.failure(which, 0, 0), BAD);
            due("no run", x.trace(which, 0, 0), BAD);
            due("no run", x.closed(which, 0), BAD);
            due("no run", x.entered(which, 0), BAD);
        }
        due("empty text", x.compile(true), -100);
        due("empty text", x.say('a', 1), 1);
        // Objects do not share anything.
        WaysAtlas y = Checks.made(RICH, true);
        y.plan(2, 0, 1, 0);
        y.say('a', 1);
        due("another one's text", new WaysAtlas().say('b', 1), 1);
        due("another one's plan", new WaysAtlas().count(4), 0);
        due("another one's program", new WaysAtlas().count(1), BAD);
    }

    private static void say() {
        sentence("`bytes`: the bytes: its n lowest ones, the most significant one first");
        String text = "method{mark 12;v0=1;}";
        for (int n = 1; n <= 8; n++) {
            WaysAtlas x = new WaysAtlas();
            for (int i = 0; i < text.length(); i += n) {
                String part = text.substring(i, Math.min(i + n, text.length()));
                // What is above the n lowest bytes does not count.
                long bytes = i % 2 == 0 ? -1 : 0x2f2f2f2f2f2f2f2fL;
                for (int k = 0; k < part.length(); k++) {
                    bytes = bytes << 8 | part.charAt(k);
                }
                due(n + " bytes", x.say(bytes, part.length()), i + part.length());
            }
            due("compile", x.compile(true), 2);
            x.run(false, 0, 0, 0, 400);
            due("mark", x.mark(0, 0), 12);
        }
        // Bytes from 128 on are no letters, digits, blanks or signs.
        for (int sign = 128; sign < 256; sign++) {
            WaysAtlas x = new WaysAtlas();
            x.say(sign - 256, 1);
            due("byte " + sign, x.compile(true), -100);
        }

        sentence("`n`: the number of bytes, 1 to 8");
        WaysAtlas x = new WaysAtlas();
        for (int n : new int[] {LEAST, -8, -1, 0, 9, 10, 16, 64, MOST}) {
            due("n " + n, x.say(0, n), BAD);
        }
        int length = 0;
        for (int n = 1; n <= 8; n++) {
            length += n;
            due("n " + n, x.say(0, n), length);
        }

        sentence("Returns the length of the text; BAD if n is out of range; FULL if the text would have more than 1000 bytes.");
        for (int n = 1; n <= 8; n++) {
            for (int room = 0; room <= 9; room++) {
                WaysAtlas y = new WaysAtlas();
                Checks.say(y, " ".repeat(1000 - room));
                due(n + " bytes with room for " + room, y.say(0, n), n <= room ? 1000 - room + n : FULL);
                due("n 0", y.say(0, 0), BAD);
                due("n 9", y.say(0, 9), BAD);
                due("one more", y.say(0, 1), n < room ? 1000 - room + n + 1 : n == room || room == 0 ? FULL : 1001 - room);
            }
        }
    }

    private static void compile() {
        sentence("Reads the text as a program, which replaces the present one. The text is empty afterwards, also if it has a fault.");
        WaysAtlas x = new WaysAtlas();
        String[] faulty = {"?", "method{v6=1;}", "method{again;}", "method{", " ".repeat(1000)};
        int[] places = {0, 7, 7, 7, 1000};
        for (int i = 0; i < faulty.length; i++) {
            due("fault", Checks.compile(x, faulty[i], i % 2 == 0), -100 - places[i]);
            due("the text is empty", x.compile(true), -100);
            due("the text is empty", Checks.say(x, "method{}"), 8);
            due("compile", x.compile(false), 0);
            due("the text is empty", x.compile(true), -100);
        }
        Checks.compile(x, RICH, true);
        due("methods", x.count(1), 2);
        Checks.compile(x, "method{mark 1;}", true);
        due("methods", x.count(1), 1);
        due("kinds", x.count(2), 7);
        due("catches", x.count(3), 0);
        due("statements", x.count(0), 1);
        due("no catch", x.handler(0, 0), BAD);
        due("no second method", x.run(true, 1, 0, 0, 400), BAD);
        due("no kind 7", x.plan(0, 0, 1, 7), BAD);

        x = new WaysAtlas();
        for (int i = 0; i < 8; i++) {
            String catches = "guard{v2=" + "(1+".repeat(i) + "1" + ")".repeat(i) + ";throw k3;}" + "catch k2{}".repeat(i) + "catch k3{}";
            String program = "kind under k0;".repeat(i) + in(catches + "mark " + i + ";return v2;") + "method{}".repeat(i % 4);
            due("statements", Checks.compile(x, program, i % 2 == 0), 5);
            due("methods", x.count(1), 1 + i % 4);
            due("kinds", x.count(2), 7 + i);
            due("catches", x.count(3), i + 1);
            due("the last catch", x.handler(i, 1), 3);
            due("no more catches", x.handler(i + 1, 1), BAD);
            due("run", x.run(i % 3 == 0, 0, 0, 0, 400), RETURNED);
            due("returned", x.ran(i % 3 == 0 ? 1 : 0, 1), i + 1);
            due("marked", x.mark(i % 3 == 0 ? 1 : 0, 0), i);
        }

        sentence("If it has none, the plan is empty then, and there is no run that can be asked for; if it has one, the present program, "
                + "the plan and the runs stay.");
        for (int shared = 0; shared < 2; shared++) {
            for (String fault : new String[] {"", "?", "method{v6=1;}", "method{mark 1;mark 2;}kind", "method{again;}",
                "kind under k0;method{guard{mark 4;}catch k7{}finally{mark 5;}loop 2{leave 2;}}"}) {
                x = thrown();
                x.plan(2, 0, 1, 2);
                List<Integer> before = asked(x);
                due("fault", Checks.compile(x, fault, shared == 0) <= -100 ? 1 : 0, 1);
                List<Integer> after = asked(x);
                for (int i = 1; i < before.size(); i++) {
                    due("question " + i + " after " + fault, after.get(i), before.get(i));
                }
                // The program is the same to run, both ways, and the plan counts.
                for (int which = 0; which < 2; which++) {
                    due("run", x.run(tree(which), 0, 6, 2, 400), THROWN);
                    due("wrapped", x.failure(which, x.ran(which, 2), 0), 7);
                    due("planned", x.failure(which, 0, 0), 2);
                    tape(x, which, 2, 3);
                }
                due("no fault", Checks.compile(x, RICH, shared == 0), 9);
                due("empty plan", x.count(4), 0);
                due("empty plan", x.clear(), 0);
                for (int which = 0; which < 2; which++) {
                    due("no run", x.ran(which, 0), BAD);
                    due("no run", x.mark(which, 0), BAD);
                    due("no run", x.failure(which, 0, 0), BAD);
                    due("no run", x.trace(which, 0, 0), BAD);
                    due("no run", x.closed(which, 0), BAD);
                    due("no run", x.entered(which, 0), BAD);
                }
                due("run", x.run(true, 0, 6, 2, 400), RETURNED);
                due("no run of the code", x.ran(0, 0), BAD);
                due("one of the tree", x.ran(1, 1), 3);
            }
        }

        sentence("true if one block is shared by all ways out, false if it is copied to each of them (if the copies become too long, it "
                + "is shared). The results are the same");
        String[] texts = manyWaysOut();
        for (String text : texts) {
            WaysAtlas[] objects = {Checks.made(text, true), Checks.made(text, false)};
            for (int a = -1; a < 11; a++) {
                for (int i = 0; i < 4; i++) {
                    WaysAtlas it = objects[i / 2];
                    due("run", it.run(tree(i % 2), 0, a, 2, 400), objects[0].run(false, 0, a, 2, 400));
                    for (int what = 0; what <= 9; what++) {
                        due("ran " + what + " with " + a + " of " + text, it.ran(i % 2, what), objects[0].ran(0, what));
                    }
                }
            }
        }

        sentence("It can be run in two ways, as code with tables of handlers, or as a tree that is walked; both have the same results.");
        for (String text : texts) {
            for (int i = 0; i < 2; i++) {
                WaysAtlas it = Checks.made(text, i == 0);
                for (int a = -1; a < 13; a++) {
                    due("same with " + a + " of " + text, it.same(0, a, 2), 1);
                }
            }
        }

        sentence("Returns the number of statements; -100 minus the place of the fault if the text has one.");
        for (int n = 0; n <= 80; n++) {
            fineIn("mark 1;".repeat(n), n);
        }
        for (int place = 0; place <= 1000; place += 37) {
            x = new WaysAtlas();
            Checks.say(x, " ".repeat(place) + "x");
            due("place", x.compile(true), place == 1000 ? -1100 : -100 - place);
        }
        x = new WaysAtlas();
        due("empty text", x.compile(false), -100);
        Checks.say(x, " ".repeat(1000));
        due("full text", x.compile(false), -1100);
    }

    /** Finishing blocks of which the copies, or the code, the handlers or the depth of the copies, become too long. */
    private static String[] manyWaysOut() {
        String few = "return 1;";
        for (int i = 0; i < 5; i++) {
            few = "guard{if v0=" + i + "{return v2;}if v0=" + (i + 6) + "{throw k" + i + ";}}finally{v2=v2*3+" + i + ";" + few + "}";
        }
        String code = "v2=v2" + "+1".repeat(60) + ";mark 1;";
        for (int i = 0; i < 4; i++) {
            code = "guard{if v0=" + i + "{throw k3;}}catch k3{}catch k4{}finally{" + code + "}";
        }
        String handlers = "loop 20{guard{" + "if v0=v1-1{next 1;}".repeat(36) + "}finally{guard{throw k4;}" + "catchk3{}".repeat(12)
                + "catchk4{mark 1;}}}return 7;";
        String within = "return 6;";
        String[] blocks = {"return 5;", "return 4;", "guard{return 3;}finally{if v1=2{return 33;}}",
            "guard{guard{return 2;}finally{if v1=2{return 22;}}}finally{if v1=2{return v0;}}",
            "mark 1;guard{guard{if v0<4{return 1;}}finally{if v1=2{mark 8;}}}finally{if v0=3{return 12;}}"};
        for (String block : blocks) {
            within = "guard{" + within + "}finally{" + block + "}";
        }
        String deep = "return 6;";
        for (int i = 0; i < 5; i++) {
            deep = "guard{" + deep + "}finally{" + passedOn(Math.min(i, 2), 10 * i) + "}";
        }
        // Copies within copies, with so little code that only their depth is too much.
        String deepest = "return 1;";
        for (int k = 5; k >= 0; k--) {
            int ifs = k == 0 ? 5 : 0;
            deepest = "guard{" + deepest + "}finally{" + "if v1=2{".repeat(ifs) + "return 1" + k + ";" + "}".repeat(ifs) + "}";
        }
        return new String[] {in(few), in(code + "mark 9;return v2;"), in(handlers), in(within + "return 8;"), in(deep + "return 8;"),
            in(deepest)};
    }

    /** A return that is passed on through finishing blocks with returns of their own. */
    private static String passedOn(int levels, int number) {
        if (levels == 0) {
            return "mark " + number + ";return 1;";
        }
        return "mark " + number + ";guard{" + (levels > 1 ? passedOn(levels - 1, number + 1) : "return 2;") + "}finally{"
                + passedOn(levels - 1, number + 5) + "}";
    }

    private static void fault() {
        sentence("Returns the number of the fault that the latest call of compile() has found.");
        WaysAtlas y = new WaysAtlas();
        for (String text : new String[] {"method{v6=1;}", "method{v5=1;}", "", "method{again;}"}) {
            Checks.compile(y, text, true);
            due("fault of " + text, y.fault(), text.isEmpty() ? 1 : text.contains("v6") ? 2 : text.contains("again") ? 3 : 0);
        }
        sentence("Returns 1 to 3; 0 if it found none, or there was no such call.");
        WaysAtlas x = new WaysAtlas();
        due("no such call", x.fault(), 0);
        x.say('?', 1);
        due("no such call", x.fault(), 0);
        due("compile", x.compile(true), -100);
        due("1", x.fault(), 1);
        String[] texts = {"method{v6=1;}", "method{again;}", "", "method{}", "method{with 4{}}", "method{}?", "method{leave 1;}",
            "method{mark 1;}"};
        int[] faults = {2, 3, 1, 0, 2, 1, 3, 0};
        for (int i = 0; i < texts.length; i++) {
            Checks.compile(x, texts[i], i % 2 == 0);
            due("fault of " + texts[i], x.fault(), faults[i]);
            x.run(true, 0, 0, 0, 400);
            x.say(0, 9);
            due("the same once more", x.fault(), faults[i]);
        }
    }

    private static void count() {
        sentence("`what`: 0 statements, 1 methods, 2 kinds (the 7 that are always there included), 3 catches, 4 entries of the plan");
        for (int kinds = 0; kinds <= 9; kinds++) {
            due("kinds", Checks.made("kind under k0;".repeat(kinds) + "method{}", true).count(2), 7 + kinds);
        }
        for (int methods = 1; methods <= 8; methods++) {
            due("methods", Checks.made("method{}".repeat(methods), true).count(1), methods);
        }
        sentence("Returns the number; BAD if what is not 0 to 4; BAD for 0 to 3, and 0 for 4, if there is no program.");
        WaysAtlas x = new WaysAtlas();
        for (int program = 0; program < 3; program++) {
            for (int what : new int[] {LEAST, -9, -1, 5, 6, MOST}) {
                due("count " + what, x.count(what), BAD);
            }
            int[][] want = {{BAD, BAD, BAD, BAD, 0}, {0, 1, 7, 0, 0}, {9, 2, 8, 1, 1}};
            for (int what = 0; what <= 4; what++) {
                due("count " + what, x.count(what), want[program][what]);
            }
            Checks.compile(x, "?", true);
            for (int what = 0; what <= 4; what++) {
                due("count " + what + " after a fault", x.count(what), want[program][what]);
            }
            Checks.compile(x, program == 0 ? "method{}" : RICH, true);
            x.plan(2, 0, 1, 0);
        }
        x = Checks.made("kind under k0;".repeat(9) + "method{}".repeat(8), true);
        due("no statements", x.count(0), 0);
        due("most methods", x.count(1), 8);
        due("most kinds", x.count(2), 16);
        x = Checks.made(in("guard{}" + "catchk0{}".repeat(109)), true);
        due("many catches", x.count(3), 109);
        due("the last one", x.handler(108, 0), 0);
        x = Checks.made(in("mark 1;".repeat(80)), true);
        due("most statements", x.count(0), 80);
        for (int i = 1; i <= 31; i++) {
            x.plan(79, 0, i, 0);
            due("entries", x.count(4), Math.min(i, 30));
        }
    }

    private static void plan() {
        sentence("- `statement`: the statement");
        WaysAtlas first = Checks.made(in("mark 1;" + "v0=1;".repeat(78) + "mark 1;"), true);
        for (int s : new int[] {LEAST, -80, -1, 0, 1, 78, 79, 80, 81, MOST}) {
            due("statement " + s, first.plan(s, 0, 1, 0), s == 0 ? 1 : s == 79 ? 2 : BAD);
        }
        sentence("- `kind`: the kind");
        for (int kind : new int[] {LEAST, -1, 0, 6, 7, 16, MOST}) {
            due("kind " + kind, first.plan(0, 0, 1, kind), kind == 0 ? 3 : kind == 6 ? 4 : BAD);
        }
        sentence("`part`: 0 to 6; the statement must have this part: 0 for a mark, 1 to n and 4 to n + 3 for a with n");
        String text = in("mark 1;with 1{}with 2{}with 3{}guard{}catch k0{}guard{}finally{}v0=1;r0=none;loop 1{}if 1=1{}return 1;"
                + "call m0(0,0);throw k1;r0[0]=1;r0=row 1;r0=r1;v0=call m0(0,0);");
        WaysAtlas x = Checks.made(text, true);
        for (int s = -1; s <= x.count(0); s++) {
            for (int part : new int[] {LEAST, -4, -3, -2, -1, 0, 1, 2, 3, 4, 5, 6, 7, 8, 9, 10, MOST}) {
                boolean has = s == 0 && part == 0 || s >= 1 && s <= 3 && (part >= 1 && part <= s || part >= 4 && part <= s + 3);
                due("part " + part + " of " + s, x.plan(s, part, 1, 0), has ? 1 : BAD);
                x.clear();
            }
        }
        sentence("`time`: 1 to 400");
        for (int time : new int[] {LEAST, -1, 0, 401, 402, 1000, MOST}) {
            due("time " + time, x.plan(0, 0, time, 0), BAD);
        }
        due("least time", x.plan(0, 0, 1, 0), 1);
        due("greatest time", x.plan(0, 0, 400, 0), 2);
        sentence("Returns the number of entries; BAD if an argument is invalid or there is no program; FULL if there are 30 entries.");
        for (int s : new int[] {LEAST, -9, -1, x.count(0), 80, MOST}) {
            due("statement " + s, x.plan(s, 0, 1, 0), BAD);
        }
        for (int kind : new int[] {LEAST, -9, -1, 7, 8, 16, MOST}) {
            due("kind " + kind, x.plan(0, 0, 1, kind), BAD);
        }
        due("greatest kind", x.plan(0, 0, 1, 6), 3);
        due("no program", new WaysAtlas().plan(0, 0, 1, 0), BAD);
        sentence("The plan has at most 30 entries.");
        for (int i = 4; i <= 30; i++) {
            due("entry " + i, x.plan(3, 6, i, 1), i);
        }
        for (int i = 0; i < 3; i++) {
            due("one more", x.plan(0, 0, 1, 0), FULL);
            due("entries", x.count(4), 30);
        }
        Checks.compile(x, "kind under k0;".repeat(9) + "method{mark 1;}", true);
        due("greatest kind", x.plan(0, 0, 1, 15), 1);
        due("no kind", x.plan(0, 0, 1, 16), BAD);
        // The thirtieth entry counts as well as the first one; one that was refused does not.
        each(in("loop 40{guard{mark 1;}catch k0{}}"), (y, which) -> {
            for (int time = 1; time <= 31; time++) {
                due("entry", y.plan(2, 0, time, time % 7), time <= 30 ? time : FULL);
            }
            due("run", y.run(tree(which), 0, 0, 0, 400), RETURNED);
            due("made", y.ran(which, 4), 30);
            due("marks", y.ran(which, 3), 10);
            due("kind of the last one", y.failure(which, 29, 0), 30 % 7);
        });
    }

    private static void clear() {
        sentence("Empties the plan. Returns how many entries it had.");
        WaysAtlas x = new WaysAtlas();
        due("no program", x.clear(), 0);
        Checks.compile(x, in("guard{mark 1;}catch k0{return 5;}"), true);
        due("none", x.clear(), 0);
        for (int n : new int[] {1, 2, 29, 30, 30}) {
            for (int i = 1; i <= n; i++) {
                due("room", x.plan(1, 0, i, 0), i);
            }
            due("run", x.run(false, 0, 0, 0, 400), RETURNED);
            due("planned", x.ran(0, 1), 5);
            due("entries", x.clear(), n);
            due("none", x.clear(), 0);
            due("none", x.count(4), 0);
            due("the run stays", x.ran(0, 1), 5);
            due("run", x.run(false, 0, 0, 0, 400), RETURNED);
            due("nothing is planned", x.ran(0, 1), 0);
        }
    }

    private static void run() {
        sentence("`steps`: the limit of steps, 0 to 400");
        each("method{loop 9999{}}method{}", (x, which) -> {
            for (int steps : new int[] {LEAST, -400, -1, 401, 402, 4000, MOST}) {
                due("steps " + steps, x.run(tree(which), 0, 0, 0, steps), BAD);
                due("steps " + steps, x.run(tree(which), 1, 0, 0, steps), BAD);
                due("no run", x.ran(which, 0), BAD);
            }
            for (int steps : new int[] {0, 1, 2, 399, 400}) {
                due("spent", x.run(tree(which), 0, 0, 0, steps), SPENT);
                due("steps", x.ran(which, 9), steps);
                due("returned", x.run(tree(which), 1, 0, 0, steps), RETURNED);
                due("no steps", x.ran(which, 9), 0);
            }
        });
        sentence("Returns how the run ended: RETURNED, THROWN or SPENT; BAD if there is no such method or steps is out of range.");
        each("method{}".repeat(7) + "method{throw k1;}", (x, which) -> {
            for (int m : new int[] {LEAST, -9, -1, 8, 9, 80, MOST}) {
                due("method " + m, x.run(tree(which), m, 0, 0, 400), BAD);
                due("no run", x.ran(which, 0), BAD);
            }
            due("the last one", x.run(tree(which), 7, 0, 0, 1), THROWN);
            due("the first one", x.run(tree(which), 0, 0, 0, 0), RETURNED);
            due("the last one", x.run(tree(which), 7, 0, 0, 0), SPENT);
        });
        due("no program", new WaysAtlas().run(true, 0, 0, 0, 1), BAD);
        sentence("Runs a method, with the present plan.");
        WaysAtlas planned = Checks.made(in("mark 1;"), true);
        for (int i = 0; i < 2; i++) {
            due("run", planned.run(tree(i), 0, 0, 0, 400), RETURNED);
            planned.plan(0, 0, 1, 4);
            due("run", planned.run(tree(i), 0, 0, 0, 400), THROWN);
            due("clear", planned.clear(), 1);
            due("run", planned.run(tree(i), 0, 0, 0, 400), RETURNED);
        }
        sentence("true to walk the tree, false to run the code");
        WaysAtlas x = Checks.made("method{return v0;}", true);
        due("code", x.run(false, 0, 5, 0, 1), RETURNED);
        due("no tree", x.ran(1, 0), BAD);
        due("tree", x.run(true, 0, 6, 0, 1), RETURNED);
        due("the code's", x.ran(0, 1), 5);
        due("the tree's", x.ran(1, 1), 6);
    }

    private static void ran() {
        sentence("`which`: 0 for the latest run of the code, 1 for that of the tree, since the latest successful compile()");
        WaysAtlas x = thrown();
        due("code again", x.run(false, 0, 6, 2, 400), RETURNED);
        due("code", x.ran(0, 0), RETURNED);
        due("tree", x.ran(1, 0), THROWN);
        due("a run that is not made does not count", x.run(true, 0, 6, 2, 401), BAD);
        due("tree", x.ran(1, 0), THROWN);
        Checks.compile(x, "method{again;}", true);
        due("tree", x.ran(1, 0), THROWN);
        Checks.compile(x, RICH, true);
        due("none", x.ran(0, 0), BAD);
        due("none", x.ran(1, 0), BAD);
        sentence("0 how it ended; 1 what the first method returned, 0 if it did not return; 2 the number of the exception that ended it, "
                + "NONE if none did; 3 how many numbers are on the tape; 4 how many exceptions were made; 5 how many resources were "
                + "opened; 6 how many were closed; 7 how many exceptions were lost; 8 the greatest number of methods that were being "
                + "executed at the same time; 9 how many steps were taken");
        each(RICH, (y, which) -> {
            int[][] runs = {{6, 2, 400}, {6, 0, 400}, {6, 2, 0}, {6, 2, 5}, {6, 2, 11}, {-6, 6, 400}};
            int[][] want = {{RETURNED, 3, NONE, 3, 0, 2, 2, 0, 2, 12}, {THROWN, 0, 1, 3, 2, 2, 2, 0, 2, 12},
                {SPENT, 0, NONE, 0, 0, 0, 0, 0, 1, 0}, {SPENT, 0, NONE, 1, 0, 2, 0, 0, 1, 5},
                {SPENT, 0, NONE, 3, 0, 2, 2, 0, 2, 11}, {RETURNED, -1, NONE, 3, 0, 2, 2, 0, 2, 12}};
            for (int i = 0; i < runs.length; i++) {
                due("run", y.run(tree(which), 0, runs[i][0], runs[i][1], runs[i][2]), want[i][0]);
                for (int what = 0; what <= 9; what++) {
                    due("ran " + what + " of run " + i, y.ran(which, what), want[i][what]);
                }
            }
        });
        gives("return 0-9;", -9);
        gives("return -9;", -9);
        sentence("Returns the property; BAD if there is no such run or what is out of range.");
        x = thrown();
        for (int what : new int[] {LEAST, -9, -1, 10, 11, MOST}) {
            due("what " + what, x.ran(0, what), BAD);
            due("what " + what, x.ran(1, what), BAD);
        }
        for (int which : WRONG_RUNS) {
            for (int what = -1; what <= 10; what++) {
                due("run " + which, x.ran(which, what), BAD);
            }
        }
    }

    private static void mark() {
        sentence("`i`: its index, from 0");
        each(in("mark 3;mark 4;"), (x, which) -> {
            x.run(tree(which), 0, 0, 0, 400);
            int[] want = {NONE, 3, 4, NONE};
            for (int i = -1; i <= 2; i++) {
                due("mark " + i, x.mark(which, i), want[i + 1]);
            }
        });
        sentence("Returns the number; NONE if there are not so many, or i is negative; BAD if there is no such run.");
        each(in("loop v0{mark 7;}"), (x, which) -> {
            for (int i : new int[] {LEAST, -1, 0, 1, MOST}) {
                due("no run", x.mark(which, i), BAD);
            }
            for (int n : new int[] {3, 0, 1, 198}) {
                x.run(tree(which), 0, n, 0, 400);
                for (int i : new int[] {LEAST, -9, -1, 0, 1, 2, 3, 197, 198, 399, 400, 401, MOST}) {
                    due("mark " + i + " of " + n, x.mark(which, i), i >= 0 && i < n ? 7 : NONE);
                }
                for (int other : WRONG_RUNS) {
                    due("run " + other, x.mark(other, 0), BAD);
                }
                due("the other run", x.mark(1 - which, 0), BAD);
            }
        });
    }

    private static void failure() {
        sentence("0 its kind; 1 its cause; 2 the first exception that is suppressed under it; 3 the next one in the list of suppressed "
                + "exceptions to which it belongs; 4 its statement; 5 how many methods were being executed when it was made");
        each("method{with 3{call m1(0,0);}catch k2{wrap k5;}}method{v0=1/0;}", (x, which) -> {
            plan(x, 0, 6, 1, 3, 0, 4, 1, 4);
            due("run", x.run(tree(which), 0, 0, 0, 400), THROWN);
            int[][] want = {{2, NONE, 1, NONE, 3, 2}, {3, NONE, NONE, 2, 0, 1}, {4, NONE, NONE, NONE, 0, 1}, {5, 0, NONE, NONE, 2, 1}};
            for (int e = 0; e < 4; e++) {
                for (int what = 0; what <= 5; what++) {
                    due("failure " + e + ", " + what, x.failure(which, e, what), want[e][what]);
                }
            }
        });
        sentence("Returns the property (for 1, 2 and 3 the number of an exception, NONE if there is none); NONE if there is no such "
                + "exception; BAD if there is no such run or what is not 0 to 5.");
        each(RICH, (x, which) -> {
            for (int i : new int[] {-1, 0, 1}) {
                due("no run", x.failure(which, i, 0), BAD);
            }
            x.run(tree(which), 0, 6, 0, 400);
            for (int i : new int[] {LEAST, -9, -1, 0, 1, 2, 3, 399, 400, MOST}) {
                boolean is = i == 0 || i == 1;
                due("kind of " + i, x.failure(which, i, 0), i == 0 ? 2 : i == 1 ? 7 : NONE);
                due("cause of " + i, x.failure(which, i, 1), i == 1 ? 0 : NONE);
                due("first of " + i, x.failure(which, i, 2), NONE);
                due("next of " + i, x.failure(which, i, 3), NONE);
                due("statement of " + i, x.failure(which, i, 4), i == 0 ? 8 : i == 1 ? 5 : NONE);
                due("methods at " + i, x.failure(which, i, 5), is ? 2 - i : NONE);
                for (int what : new int[] {LEAST, -9, -1, 6, 7, MOST}) {
                    due("what " + what, x.failure(which, i, what), BAD);
                }
                for (int other : WRONG_RUNS) {
                    due("run " + other, x.failure(other, i, 0), BAD);
                }
                due("the other run", x.failure(1 - which, i, 0), BAD);
            }
            x.run(tree(which), 0, 6, 1, 400);
            due("none any more", x.failure(which, 0, 0), NONE);
        });
    }

    private static void trace() {
        sentence("`k`: 0 for the innermost activation, 1 for the one that called it, and so on");
        each("method{if v0<v1{call m0(v0+1,v1);}else{call m1(0,0);}}method{throw k3;}", (x, which) -> {
            for (int depth = 1; depth <= 11; depth++) {
                due("run", x.run(tree(which), 0, 1, depth, 400), THROWN);
                due("kind", x.failure(which, 0, 0), 3);
                due("the innermost one", x.trace(which, 0, 0), 1003);
                for (int k = 1; k <= depth; k++) {
                    due("trace " + k, x.trace(which, 0, k), k == 1 ? 2 : 1);
                }
                due("none", x.trace(which, 0, depth + 1), NONE);
            }
            due("run", x.run(tree(which), 0, 1, 12, 400), THROWN);
            due("too deep", x.failure(which, 0, 0), 6);
            for (int k = 0; k < 12; k++) {
                due("trace " + k, x.trace(which, 0, k), k == 0 ? 2 : 1);
            }
            due("none", x.trace(which, 0, 12), NONE);
        });
        sentence("Returns 1000 * method + statement of this activation; NONE if there is no such exception or activation; BAD if there is "
                + "no such run.");
        String text = "method{}".repeat(7) + in("v0=1;".repeat(79) + "throw k3;");
        each(text, (x, which) -> {
            for (int i : new int[] {-1, 0, 1}) {
                due("no run", x.trace(which, i, 0), BAD);
            }
            due("run", x.run(tree(which), 7, 0, 0, 400), THROWN);
            due("the last statement of the last method", x.trace(which, 0, 0), 7079);
            for (int k : new int[] {LEAST, -9, -1, 1, 2, 12, 400, MOST}) {
                due("no activation", x.trace(which, 0, k), NONE);
            }
            for (int i : new int[] {LEAST, -9, -1, 1, 2, 400, MOST}) {
                due("no exception", x.trace(which, i, 0), NONE);
                due("neither", x.trace(which, i, i), NONE);
            }
            for (int other : WRONG_RUNS) {
                due("run " + other, x.trace(other, 0, 0), BAD);
            }
            due("the other run", x.trace(1 - which, 0, 0), BAD);
        });
        // In the 400th activation of a run, of all that it can have.
        String calls = in("call m1(0,0);".repeat(10) + "call m2(0,0);".repeat(18) + "call m3(0,0);") + in("call m2(0,0);".repeat(37))
                + "method{}method{throw k3;}";
        each(calls, (x, which) -> {
            for (int i = 0; i < 4; i++) {
                due("run", x.run(tree(which), 0, 0, 0, 400), THROWN);
                due("steps", x.ran(which, 9), 400);
                due("innermost", x.trace(which, 0, 0), 3066);
                due("its caller", x.trace(which, 0, 1), 28);
                due("none", x.trace(which, 0, 2), NONE);
            }
        });
        // The statement when it was made, not a later one.
        each("method{guard{call m1(0,0);}catch k0{mark 1;}mark 2;}method{mark 1;throw k3;}", (x, which) -> {
            due("run", x.run(tree(which), 0, 0, 0, 400), RETURNED);
            due("innermost", x.trace(which, 0, 0), 1005);
            due("its caller", x.trace(which, 0, 1), 1);
            due("none", x.trace(which, 0, 2), NONE);
        });
    }

    private static void closed() {
        sentence("`i`: the index in the order of closing, from 0");
        each(in("with 2{with 1{}}"), (x, which) -> {
            x.run(tree(which), 0, 0, 0, 400);
            int[] want = {NONE, 2, 1, 0, NONE};
            for (int i = -1; i <= 3; i++) {
                due("closed " + i, x.closed(which, i), want[i + 1]);
            }
        });
        sentence("Returns the number of the resource; NONE if there were not so many closings, or i is negative; BAD if there is no such "
                + "run.");
        each(in("loop v0{with 1{}}"), (x, which) -> {
            for (int i : new int[] {LEAST, -1, 0, 1, MOST}) {
                due("no run", x.closed(which, i), BAD);
            }
            for (int n : new int[] {3, 0, 1, 99}) {
                x.run(tree(which), 0, n, 0, 400);
                for (int i : new int[] {LEAST, -9, -1, 0, 1, 2, 3, 98, 99, 399, 400, MOST}) {
                    due("closed " + i + " of " + n, x.closed(which, i), i >= 0 && i < n ? i : NONE);
                }
                for (int other : WRONG_RUNS) {
                    due("run " + other, x.closed(other, 0), BAD);
                }
                due("the other run", x.closed(1 - which, 0), BAD);
            }
            // One that was opened and not closed.
            x.run(tree(which), 0, 1, 0, 4);
            due("opened", x.ran(which, 5), 1);
            due("not closed", x.closed(which, 0), NONE);
        });
    }

    private static void entered() {
        sentence("`statement`: a guard or with that has finally");
        String text = in("guard{}finally{}guard{}catch k0{}finally{}with 1{}finally{}with 2{}catch k0{}finally{}"
                + "guard{}catch k0{}with 1{}with 1{}catch k0{}mark 1;if 1=1{}else{}loop 1{}return 1;guard{}finally{}");
        each(text, (x, which) -> {
            for (int s = -1; s <= 12; s++) {
                due("no run", x.entered(which, s), BAD);
            }
            due("run", x.run(tree(which), 0, 0, 0, 400), RETURNED);
            for (int s = -1; s <= 13; s++) {
                due("statement " + s, x.entered(which, s), s >= 0 && s <= 3 ? 1 : s == 11 ? 0 : BAD);
            }
        });
        sentence("Returns how often; BAD if there is no such run or statement, or the statement has no such block.");
        each(in("loop v0{guard{}finally{}}"), (x, which) -> {
            for (int n : new int[] {0, 1, 2, 199}) {
                x.run(tree(which), 0, n, 0, 400);
                due(n + " times", x.entered(which, 1), n);
                for (int s : new int[] {LEAST, -9, -1, 0, 2, 79, 80, MOST}) {
                    due("statement " + s, x.entered(which, s), BAD);
                }
                for (int other : WRONG_RUNS) {
                    due("run " + other, x.entered(other, 1), BAD);
                }
                due("the other run", x.entered(1 - which, 1), BAD);
            }
        });
        // The statement counts, not the activation.
        each("method{call m1(0,0);call m1(0,0);call m1(0,0);}method{guard{return 1;}finally{}}", (x, which) -> {
            x.run(tree(which), 0, 0, 0, 400);
            due("of all activations", x.entered(which, 3), 3);
        });
    }

    private static void handler() {
        sentence("`i`: the number of the catch, from 0, in the order of the words \"catch\" in the text");
        WaysAtlas x = Checks.made("method{guard{guard{}catch k1{}}catch k2{guard{}catch k3{}}catch k4{}with 1{}}method{with 1{}catch "
                + "k5{guard{}finally{guard{}catch k6{}}}catch k0{}}", true);
        int[][] want = {{1, 1}, {0, 2}, {2, 3}, {0, 4}, {4, 5}, {6, 6}, {4, 0}};
        for (int i = 0; i < want.length; i++) {
            due("statement of " + i, x.handler(i, 0), want[i][0]);
            due("kind of " + i, x.handler(i, 1), want[i][1]);
            due("dead " + i, x.handler(i, 2), 0);
        }
        due("no more", x.handler(want.length, 0), BAD);
        sentence("2: 1 if it can never catch anything, because an earlier catch of the same statement has its kind or a kind above it, "
                + "else 0");
        x = Checks.made("kind under k2;kind under k7;method{guard{}catch k8{}catch k7{}catch k8{}catch k2{}catch k7{}catch k3{}catch k1{}"
                + "catch k3{}catch k1{}catch k0{}catch k0{}guard{}catch k8{}catch k3{guard{}catch k3{}catch k2{}catch k8{}}catch k3{}}",
                false);
        int[] dead = {0, 0, 1, 0, 1, 0, 0, 1, 1, 0, 1, 0, 0, 0, 0, 1, 1};
        for (int i = 0; i < dead.length; i++) {
            due("dead " + i, x.handler(i, 2), dead[i]);
        }
        sentence("Returns a property of a catch.");
        sentence("BAD if there is no such catch or what is not 0 to 2.");
        for (int i : new int[] {LEAST, -9, -1, dead.length, dead.length + 1, 112, MOST}) {
            for (int what = -1; what <= 3; what++) {
                due("catch " + i, x.handler(i, what), BAD);
            }
        }
        for (int what : new int[] {LEAST, -9, -1, 3, 4, MOST}) {
            due("what " + what, x.handler(0, what), BAD);
        }
        due("no program", new WaysAtlas().handler(0, 0), BAD);
        due("no catch", Checks.made("method{}", true).handler(0, 0), BAD);
    }

    /** The ways out of method 0, however it is compiled. */
    private static void ways(String text, int a, int b, int want) {
        for (int shared = 0; shared < 2; shared++) {
            due("ways of " + text + " with " + a, Checks.made(text, shared == 1).ways(0, a, b), want);
        }
    }

    private static void ways() {
        sentence("First there is a run of the method with an empty plan; then, for each passing of a part (of a mark, an opening or a "
                + "closing, in the order in which they occur) in that run, of at most the first 60, a run in which this passing alone "
                + "throws an exception, of kind 0.");
        String marks = "method{loop v0{v1=v1+1;guard{mark 1;}catch k0{return v1;}}}";
        for (int n : new int[] {-1, 0, 1, 2, 58, 59, 60, 61, 62, 99}) {
            ways(marks, n, 0, 1 + Math.max(0, Math.min(n, 60)));
        }
        // Openings and closings are passings too: 4 of them for each with 2.
        String resources = "method{loop v0{guard{with 2{v1=v1+1;}v1=v1+1;}catch k0{return v1*100+v2+1;}v2=v2+1;}}";
        for (int n : new int[] {0, 1, 2, 3}) {
            // Both openings give one number, both closings another one.
            ways(resources, n, 0, 1 + 2 * n);
        }
        String each = "method{loop v0{with 1{}v1=v1+1;}return v1;}";
        ways(each, 0, 0, 1);
        ways(each, 5, 0, 2);
        String order = "method{guard{loop v0{v1=v1+1;with 1{}}mark 1;}catch k0{return v1;}}";
        // 59 passings, that of the mark is the 60th or the 61st one.
        ways(order, 29, 0, 30);
        ways(order, 30, 0, 31);
        ways(order, 31, 0, 31);
        // Of kind 0, and alone.
        ways("method{guard{mark 1;}catch k1{return 1;}}", 0, 0, 2);
        ways("method{guard{mark 1;}catch k1{mark 1;}}", 0, 0, 2);
        ways("method{guard{mark 1;}catch k1{mark 1;}catch k0{throw k0;}}", 0, 0, 2);
        ways("method{guard{mark 1;}catch k1{}catch k0{mark 1;}}", 0, 0, 1);
        ways("method{guard{mark 1;mark 2;}catch k0{return 1;}}", 0, 0, 3);
        ways("method{guard{mark 1;}catch k0{v2=1;}guard{mark 2;}catch k0{v2=v2+2;}return v2;}", 0, 0, 3);
        ways("method{}", 0, 0, 1);
        WaysAtlas x = Checks.made(in("guard{mark 1;}catch k2{return 2;}catch k0{return 3;}"), true);
        for (int i = 1; i <= 30; i++) {
            x.plan(1, 0, i, 2);
        }
        due("the plan does not count", x.ways(0, 0, 0), 2);
        due("the plan stays", x.count(4), 30);

        // The passings of an earlier call do not count.
        String two = "method{loop 60{guard{mark 1;}catch k0{}}}method{v1=1;loop 5{v1=v1+1;guard{mark 2;}catch k0{return v1;}}}";
        for (int i = 0; i < 2; i++) {
            WaysAtlas both = Checks.made(two, i == 0);
            for (int k = 0; k < 3; k++) {
                due("60 passings, one way", both.ways(0, 0, 0), 1);
                due("5 passings, six ways", both.ways(1, 0, 0), 6);
            }
        }

        sentence("All have 400 steps.");
        // With v0 turns there are 2 * v0 + 4 steps; what is behind the loop is reached with 400 of them.
        String turns = "method{loop v0{v1=1;}mark 1;guard{mark 2;}catch k0{}}";
        ways(turns, 198, 0, 3);
        ways(turns, 199, 0, 2);
        ways(turns, 200, 0, 1);
        // A run in which a passing throws may be spent though the first one is not.
        ways("method{guard{mark 1;}catch k0{loop 9999{}}mark 2;}", 0, 0, 3);

        sentence("The runs count as the same way out if they agree in how they ended, in what was returned (0 if nothing was), in the "
                + "kind of the exception that ended them (or that none did), and in the last number on the tape (or that there is none).");
        ways("method{guard{mark 1;}catch k0{}mark 5;}", 0, 0, 2);
        ways("method{mark 5;mark 5;}", 0, 0, 3);
        ways("method{mark 5;mark 5;mark 5;}", 0, 0, 3);
        ways("method{guard{mark 1;}catch k0{throw k0;}}", 0, 0, 2);
        ways("method{guard{mark 1;}catch k0{throw k2;}throw k0;}", 0, 0, 2);
        ways("method{guard{with 1{}}catch k0{throw k2;}throw k2;}", 0, 0, 1);
        ways("method{guard{with 1{}}catch k0{throw k3;}throw k2;}", 0, 0, 2);
        ways("method{guard{with 1{}}catch k0{return 0;}}", 0, 0, 1);
        ways("method{guard{with 1{}}catch k0{return 1;}}", 0, 0, 2);
        ways("method{guard{with 1{}}catch k0{loop 9999{}}}", 0, 0, 2);
        ways("method{guard{with 1{}}catch k0{loop 9999{}}loop 9999{}}", 0, 0, 1);
        ways("method{guard{with 1{}}catch k0{return 0;}throw k2;}", 0, 0, 2);
        ways("method{guard{with 1{}}catch k0{mark 0;}}", 0, 0, 2);
        ways("method{guard{with 1{}}catch k0{mark 1;}mark 1;}", 0, 0, 2);
        ways("method{guard{with 1{}}catch k0{mark 1;}guard{mark 1;}catch k0{}}", 0, 0, 2);

        sentence("None of them can be asked for by ran().");
        for (int i = 0; i < 2; i++) {
            x = Checks.made(RICH, i == 0);
            due("ways", x.ways(0, 6, 2) > 1 ? 1 : 0, 1);
            due("no run", x.ran(0, 0), BAD);
            due("no walk", x.ran(1, 0), BAD);
            x = thrown();
            List<Integer> before = asked(x);
            x.ways(0, 6, 2);
            due("same", asked(x).equals(before) ? 1 : 0, 1);
        }
        sentence("Returns the number of different ways out; BAD if there is no such method.");
        for (int m : new int[] {LEAST, -9, -1, 2, 3, 8, MOST}) {
            due("method " + m, x.ways(m, 0, 0), BAD);
        }
        due("the last method", x.ways(1, 6, 2), 1);
        due("no program", new WaysAtlas().ways(0, 0, 0), BAD);
        ways("method{guard{if v0=v1{mark 1;}}catch k0{}}", LEAST, MOST, 1);
        ways("method{guard{if v0=v1{mark 1;}}catch k0{}}", LEAST, LEAST, 2);
    }

    private static void same() {
        sentence("Compares a run of the code with a walk of the tree, both with the present plan and 400 steps. They cannot be asked for "
                + "by ran().");
        WaysAtlas x = Checks.made(RICH, true);
        due("same", x.same(0, 6, 2), 1);
        due("no run", x.ran(0, 0), BAD);
        due("no walk", x.ran(1, 0), BAD);
        x = thrown();
        x.plan(1, 1, 1, 3);
        List<Integer> before = asked(x);
        due("same", x.same(0, 6, 2), 1);
        due("the runs and the plan stay", asked(x).equals(before) ? 1 : 0, 1);
        sentence("Returns 1 if they agree in all that ran(), mark(), failure(), closed() and entered() return, else 0; BAD if there is no "
                + "such method.");
        for (int m : new int[] {LEAST, -9, -1, 2, 3, 8, MOST}) {
            due("method " + m, x.same(m, 0, 0), BAD);
        }
        due("no program", new WaysAtlas().same(0, 0, 0), BAD);
        due("the last method", x.same(1, 6, 0), 1);
        due("extremes", x.same(1, LEAST, -1), 1);
        for (int part : new int[] {1, 2, 4, 5}) {
            x.clear();
            x.plan(1, part, 1, part);
            x.plan(2, 0, 1, 2);
            x.plan(3, 0, 1, 2);
            due("same", x.same(0, 6, 2), 1);
            due("same", x.same(0, 6, 0), 1);
        }
    }
}
