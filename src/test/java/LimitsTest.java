import java.util.List;

/** The greatest programs and runs that the document allows, and what is just beyond them. */
public final class LimitsTest {
    private static final int BAD = -1, NONE = -9;
    private static final String FAULTY = "method{loop 1{loop 2{guard{}catch k0{}catch k1{guard{}catch k2{again";
    private static final Checks CHECKS = new Checks();

    public static void main(String[] args) {
        statements();
        methodsAndKinds();
        blocks();
        levelsOfSums();
        longTexts();
        longRuns();
        manyCalls();
        nothingGathers();
        wildArguments();
        CHECKS.end("LimitsTest");
    }

    /** The text is a program, in both ways of compiling, and code and tree agree. */
    private static void fine(String text, int statements) {
        for (int shared = 0; shared < 2; shared++) {
            WaysAtlas x = new WaysAtlas();
            CHECKS.due("compile of " + text, Checks.compile(x, text, shared == 1), statements);
            CHECKS.due("fault of " + text, x.fault(), 0);
            Oracle oracle = new Oracle(text);
            for (int m = 0; m < oracle.methods.size(); m++) {
                for (int a = 0; a < 6; a++) {
                    CHECKS.due("same " + text, x.same(m, a, 2), 1);
                    CHECKS.due("returned by " + text, x.run(false, m, a, 2, 400), x.run(true, m, a, 2, 400));
                    Oracle.Run run = oracle.new Run(m, a, 2, List.of(), 400);
                    for (int what = 0; what <= 9; what++) {
                        CHECKS.due("ran " + what + " of " + text, x.ran(0, what), run.property(what));
                    }
                }
                CHECKS.due("ways " + text, x.ways(m, 1, 2), oracle.ways(m, 1, 2));
            }
        }
    }

    private static void faulty(String text, int number, int place) {
        WaysAtlas x = new WaysAtlas();
        CHECKS.due("compile of " + text, Checks.compile(x, text, true), -100 - place);
        CHECKS.due("fault of " + text, x.fault(), number);
    }

    private static void statements() {
        String eighty = "v0=1;".repeat(80);
        fine("method{" + eighty + "}", 80);
        faulty("method{" + eighty + "v1=1;}", 2, 407);
        faulty("method{" + eighty + "}method{mark 1;}", 2, 415);
        faulty("method{" + eighty + "v9=1;}", 2, 407);
        faulty("method{" + eighty + "else{}}", 1, 407);
        faulty("method{" + eighty, 1, 407);
        fine("method{if 1=1{" + "v0=1;".repeat(78) + "}else{mark 1;}}", 80);
        faulty("method{if 1=1{" + "v0=1;".repeat(78) + "}else{mark 1;mark 2;}}", 2, 417);
        fine("method{" + "guard{}catchk0{}".repeat(61) + "}", 61);
    }

    private static void methodsAndKinds() {
        fine("method{}".repeat(8), 0);
        faulty("method{}".repeat(9), 2, 64);
        faulty("method{}".repeat(8) + "kind", 1, 64);
        String nine = "kind under k0;".repeat(9);
        fine(nine + "method{throw k15;}", 1);
        faulty(nine + "method{throw k16;}", 3, 126 + 13);
        faulty(nine + "kind under k0;method{}", 2, 126);
        faulty(nine + "kind", 2, 126);
        // The kinds in a chain: the last one is below all others.
        StringBuilder chain = new StringBuilder("kind under k2;");
        for (int k = 7; k < 15; k++) {
            chain.append("kind under k").append(k).append(';');
        }
        chain.append("method{guard{throw k15;}catch k3{}catch k7{return 7;}}");
        WaysAtlas x = Checks.made(chain.toString(), true);
        CHECKS.due("kinds", x.count(2), 16);
        CHECKS.due("run", x.run(true, 0, 0, 0, 400), WaysAtlas.RETURNED);
        CHECKS.due("caught", x.ran(1, 1), 7);
        CHECKS.due("same", x.same(0, 0, 0), 1);
        CHECKS.due("plan", Checks.compile(x, nine + "method{mark 1;}", true), 1);
        CHECKS.due("plan", x.plan(0, 0, 1, 15), 1);
        CHECKS.due("plan", x.plan(0, 0, 1, 16), BAD);
    }

    private static void blocks() {
        String[] heads = {"loop 1", "if 1=1", "guard", "with 3"};
        String[] tails = {"", "else{}", "catch k0{}", "finally{}"};
        for (int i = 0; i < 4; i++) {
            String head = heads[i] + "{";
            String six = head.repeat(6);
            String ends = ("}" + tails[i]).repeat(6);
            fine("method{" + six + "mark 1;" + ends + "}", 7);
            String seven = "method{" + six + heads[i];
            faulty(seven + "{mark 1;}" + tails[i] + ends + "}", 2, seven.length());
            faulty(seven + ";", 1, seven.length());
        }
        String six = "guard{}finally{".repeat(6);
        fine("method{" + six + "mark 1;" + "}".repeat(6) + "}", 7);
        String seven = "method{" + six + "guard";
        faulty(seven + "{}finally{}" + "}".repeat(7), 2, seven.length());
        String catches = "guard{throw k3;}catch k0{".repeat(6);
        fine("method{" + catches + "again;" + "}".repeat(6) + "}", 13);
        fine("method{" + "loop 2{".repeat(6) + "leave 6;" + "}".repeat(6) + "}", 7);
        faulty("method{" + "loop 2{".repeat(6) + "leave 7;" + "}".repeat(6) + "}", 3, 7 + 42 + 6);
    }

    private static void levelsOfSums() {
        String[][] nests = {{"(", ")"}, {"-", ""}, {"r0[", "]"}, {"(-", ")"}, {"r0[(", ")]"}};
        for (String[] nest : nests) {
            int each = nest[0].startsWith("r0[(") || nest[0].equals("(-") ? 2 : 1;
            String open = nest[0].repeat(8 / each);
            String close = nest[1].repeat(8 / each);
            fine("method{v0=" + open + "v1" + close + "+(((1)));}", 1);
            fine("method{if " + open + "1" + close + "=" + open + "1" + close + "{}}", 1);
            faulty("method{v0=" + open + "(v1)" + close + ";}", 2, 10 + open.length());
            faulty("method{v0=" + open + "-v1" + close + ";}", 2, 10 + open.length());
            faulty("method{v0=" + open + "size r1" + close + ";}", 2, 10 + open.length());
            faulty("method{v0=" + open + "r1[0]" + close + ";}", 2, 12 + open.length());
            faulty("method{v0=" + open + "r3[0]" + close + ";}", 2, 10 + open.length());
            faulty("method{v0=" + open + "r1;" + close + ";}", 1, 12 + open.length());
            fine("method{r0[" + open + "1" + close + "]=" + open + "1" + close + ";}", 1);
            fine("method{call m0(" + open + "1" + close + "," + open + "1" + close + ");}", 1);
        }
        fine("method{v0=(((((((size r1)))))));}", 1);
        fine("method{r0=row 8;r0[1]=2;v0=1-(2-(3*(4-(5*(6+(7*(r0[1]-v1)))))));return v0;}", 4);
    }

    private static void longTexts() {
        fine(fill("method{v0=1", "+1", ";}"), 1);
        fine(fill("method{v0=1", "+1*--------1", ";return v0;}"), 2);
        fine(fill("method{v0=v1", "-(2*(3+v0)%5)", ";return v0;}"), 2);
        fine("method{" + "with 3{".repeat(6) + "return 0;".repeat(74) + "}finally{}".repeat(6) + "}", 80);
        fine(fill("method{" + "with 3{".repeat(6) + "return 0;".repeat(73) + "return 0", "+1", ";" + "}finally{}".repeat(6) + "}"),
                80);
        fine("method{" + "with 3{}finally{}".repeat(38) + "with 3{}".repeat(42) + "}", 80);
        fine("method{guard{throw k2;}" + "catch k3{}".repeat(95) + "finally{}}", 2);
        fine(fill("method{guard{throw k2;}", "catchk3{}", "}"), 2);
        copies();
        String deep = "return 1;";
        for (int i = 0; i < 5; i++) {
            deep = "guard{" + deep + "}finally{" + (i % 2 == 0 ? "mark 1;" : "if v0=1{throw k2;}") + "}";
        }
        fine("method{" + deep + deep + "}", 26);
        String wide = "guard{return 0;}finally{return 1;}";
        for (int i = 0; i < 4; i++) {
            wide = "guard{" + wide + "}finally{" + wide + "}";
        }
        fine("method{" + wide.replace("return", "mark") + "}", 31 + 32);
        String left = "mark 1;leave 1;";
        for (int i = 0; i < 4; i++) {
            left = (i % 2 == 0 ? "guard{" : "with 2{") + left + "}finally{mark 2;if v2=" + i + "{v2=v2+1;next 1;}}";
        }
        fine("method{loop 9{" + left + "}}", 23);
    }

    /** Copies of finishing blocks that become too long: by their code, their handlers, or copies within copies. */
    private static void copies() {
        String code = "v2=v2" + "+1".repeat(60) + ";mark 1;";
        for (int i = 0; i < 4; i++) {
            code = "guard{if v0=" + i + "{throw k3;}}catch k3{}catch k4{}finally{" + code + "}";
        }
        fine("method{" + code + "mark 9;return v2;}", 16);
        fine("method{loop 20{guard{" + "if v0=v1-1{next 1;}".repeat(36) + "}finally{guard{throw k4;}"
                + "catchk3{}".repeat(12) + "catchk4{mark 1;}}}return 7;}", 78);
        String inner = "return 6;";
        String[] blocks = {"return 5;", "return 4;", "guard{return 3;}finally{if v1=2{return 33;}}",
            "guard{guard{return 2;}finally{if v1=2{return 22;}}}finally{if v1=2{return v0;}}",
            "mark 1;guard{guard{if v0<4{return 1;}}finally{if v1=2{mark 8;}}}finally{if v0=3{return 12;}}"};
        for (String block : blocks) {
            inner = "guard{" + inner + "}finally{" + block + "}";
        }
        fine("method{" + inner + "return 8;}", 29);
        // Each return is passed on through a copy within the copy before it.
        inner = "return 6;";
        for (int i = 0; i < 5; i++) {
            inner = "guard{" + inner + "}finally{" + passing(Math.min(i, 2), 10 * i) + "}";
        }
        fine("method{" + inner + "return 8;}", 50);
        fine("method{" + "loop 1{}".repeat(76) + "loop 1{guard{leave 1;}finally{mark 1;}}}", 80);
        fine("method{" + "with 1{}".repeat(76) + "loop 1{guard{leave 1;}finally{mark 1;}}}", 80);
        fine("method{" + "guard{}finally{}".repeat(58) + "loop 1{guard{leave 1;}finally{mark 1;}}}", 62);
    }

    private static String passing(int levels, int number) {
        if (levels == 0) {
            return "mark " + number + ";return 1;";
        }
        return "mark " + number + ";guard{" + (levels > 1 ? passing(levels - 1, number + 1) : "return 2;") + "}finally{"
                + passing(levels - 1, number + 5) + "}";
    }

    /** As often as it fits into 1000 bytes. */
    private static String fill(String head, String piece, String tail) {
        return head + piece.repeat((1000 - head.length() - tail.length()) / piece.length()) + tail;
    }

    private static void longRuns() {
        // A long sum in each of 199 turns.
        fine(fill("method{loop 9999{v0=v0", "+1*v1-7", ";}}"), 2);
        // As many exceptions as possible.
        WaysAtlas x = Checks.made("method{loop 9999{with 3{}catchk0{}}}", true);
        for (int part = 4; part <= 6; part++) {
            for (int time = 1; time <= 10; time++) {
                CHECKS.due("plan", x.plan(1, part, time, part - 4), (part - 4) * 10 + time);
            }
        }
        for (int which = 0; which < 2; which++) {
            CHECKS.due("run", x.run(which == 1, 0, 0, 0, 400), WaysAtlas.SPENT);
            CHECKS.due("made", x.ran(which, 4), 30);
            CHECKS.due("opened", x.ran(which, 5), 150);
            CHECKS.due("closed", x.ran(which, 6), 149);
            CHECKS.due("steps", x.ran(which, 9), 400);
        }
        fine("method{loop 9999{guard{guard{throw k2;}finally{throw k3;}}finally{throw k4;}}}", 6);
        fine("method{loop 9999{guard{guard{guard{throw k2;}finally{throw k3;}}finally{throw k4;}}catch k0{}}}", 7);
        fine("method{loop 9999{call m1(0,0);}}method{}", 2);
        fine("method{loop 9999{call m1(0,0);}}method{if v0<10{call m1(v0+1,0);call m1(v0+1,1);}}", 5);
        fine("method{loop 9999{r0=row 8;r0[7]=1;}}", 3);
        x = Checks.made("method{loop 8192*8192*32-1{}}", false);
        CHECKS.due("run", x.run(false, 0, 0, 0, 400), WaysAtlas.SPENT);
        CHECKS.due("same", x.same(0, 0, 0), 1);
        // One exception gathers the suppressed ones of many closings.
        x = Checks.made("method{guard{throw k3;}catch k0{loop 9999{guard{with 1{again;}}catch k0{}}}}", true);
        for (int time = 1; time <= 30; time++) {
            x.plan(4, 4, time, 2);
        }
        for (int which = 0; which < 2; which++) {
            CHECKS.due("run", x.run(which == 1, 0, 0, 0, 400), WaysAtlas.SPENT);
            CHECKS.due("first", x.failure(which, 0, 2), 1);
            for (int i = 1; i <= 30; i++) {
                CHECKS.due("next of " + i, x.failure(which, i, 3), i == 30 ? NONE : i + 1);
            }
        }
    }

    /** What runs and programs leave behind does not gather. */
    private static void nothingGathers() {
        // Sums that an exception cuts off, and a value that waits for a closing.
        fine("method{loop 80{guard{v2=1+(2+1/0);}catch k0{}}return 2+3*v0;}", 4);
        WaysAtlas x = Checks.made("method{with 1{return 1+v0;}}method{return 1+(2+(3+v0));}", true);
        for (int i = 0; i < 80; i++) {
            CHECKS.due("spent", x.run(false, 0, i, 0, 3), WaysAtlas.SPENT);
        }
        CHECKS.due("run", x.run(false, 1, 4, 0, 400), WaysAtlas.RETURNED);
        CHECKS.due("returned", x.ran(0, 1), 10);
        // Programs on one object.
        x = new WaysAtlas();
        String sum = "+(1*2)".repeat(100);
        for (int i = 0; i < 100; i++) {
            CHECKS.due("faulty", Checks.compile(x, FAULTY, true),
                    -100 - FAULTY.length());
            String text = "method{guard{return v0" + sum + ";}catch k" + i % 7 + "{}}";
            CHECKS.due("statements", Checks.compile(x, text, i % 2 == 0), 2);
            CHECKS.due("catches", x.count(3), 1);
            CHECKS.due("kind", x.handler(0, 1), i % 7);
            CHECKS.due("no other", x.handler(1, 1), BAD);
            CHECKS.due("run", x.run(i % 3 == 0, 0, i, 0, 400), WaysAtlas.RETURNED);
            CHECKS.due("returned", x.ran(i % 3 == 0 ? 1 : 0, 1), i + 200);
        }
        // Runs on one object, with as many calls as there may be.
        x = Checks.made("method{" + "call m1(0,0);".repeat(19) + "call m3(0,0);}method{" + "call m2(0,0);".repeat(19)
                + "}method{}method{throw k3;}", true);
        for (int i = 0; i < 30; i++) {
            for (int which = 0; which < 2; which++) {
                CHECKS.due("run", x.run(which == 1, 0, 0, 0, 400), WaysAtlas.THROWN);
                CHECKS.due("steps", x.ran(which, 9), 382);
                CHECKS.due("trace", x.trace(which, 0, 0), 3039);
                CHECKS.due("trace", x.trace(which, 0, 1), 19);
                CHECKS.due("trace", x.trace(which, 0, 2), NONE);
            }
        }
    }

    /** 512 calls on one object; what each answers does not depend on those before it. */
    private static void manyCalls() {
        String text = "method{loop 60{guard{with 1{v2=v2+1;}mark 1;}catch k0{return v2;}}}";
        WaysAtlas x = Checks.made(text, false);
        int ways = new Oracle(text).ways(0, 0, 0);
        for (int i = 0; i < 250; i++) {
            CHECKS.due("ways", x.ways(0, 0, 0), ways);
            CHECKS.due("same", x.same(0, i, 0), 1);
        }
    }

    private static void wildArguments() {
        int[] wild = {Integer.MIN_VALUE, -1000, -10, -9, -8, -2, -1, 0, 1, 2, 3, 5, 6, 7, 8, 10, 29, 30, 79, 80, 400, 401, 1000,
            Integer.MAX_VALUE};
        WaysAtlas[] objects = {new WaysAtlas(), Checks.made("method{}", true),
            Checks.made("method{guard{with 1{mark 1;v0=v0/v1;}}catch k2{wrap k3;}finally{mark 2;}}", false)};
        for (WaysAtlas x : objects) {
            x.run(true, 0, 1, 0, 400);
            x.run(false, 0, 1, 0, 400);
            for (int a : wild) {
                CHECKS.due("count", x.count(a) >= BAD ? 1 : 0, 1);
                CHECKS.due("clear", x.clear() >= 0 ? 1 : 0, 1);
                CHECKS.due("say", x.say(a, a) >= -2 ? 1 : 0, 1);
                for (int b : wild) {
                    CHECKS.due("ran", x.ran(a, b) >= NONE ? 1 : 0, 1);
                    CHECKS.due("mark", x.mark(a, b) >= NONE ? 1 : 0, 1);
                    CHECKS.due("closed", x.closed(a, b) >= NONE ? 1 : 0, 1);
                    CHECKS.due("entered", x.entered(a, b) >= BAD ? 1 : 0, 1);
                    CHECKS.due("handler", x.handler(a, b) >= BAD ? 1 : 0, 1);
                    CHECKS.due("ways", x.ways(a, b, a) >= BAD ? 1 : 0, 1);
                    CHECKS.due("same", x.same(a, b, a) >= BAD ? 1 : 0, 1);
                    for (int c : wild) {
                        CHECKS.due("failure", x.failure(a, b, c) >= NONE ? 1 : 0, 1);
                        CHECKS.due("trace", x.trace(a, b, c) >= NONE ? 1 : 0, 1);
                        CHECKS.due("plan", x.plan(a, b, c, c & 7) >= -2 ? 1 : 0, 1);
                        CHECKS.due("run", x.run((a & 1) == 0, a, b, c, 50) >= BAD ? 1 : 0, 1);
                        CHECKS.due("run", x.run((c & 1) == 0, a, b, c, c) >= BAD ? 1 : 0, 1);
                    }
                }
            }
        }
    }
}
