import java.util.ArrayList;
import java.util.List;

/** Each sentence of the document on what happens in a run that names a boundary case. */
public final class RunBoundariesTest extends Sentences {
    private static final int[] EXTREMES = {LEAST, LEAST + 1, -65536, -9, -2, -1, 0, 1, 2, 9, 65536, MOST - 1, MOST};
    /** The least number there is, as a sum. */
    private static final String LEAST_SUM = "(0-8192*8192*32)", MOST_SUM = "(8192*8192*32-1)";

    public static void main(String[] args) {
        activations();
        statementOfAnActivation();
        steps();
        spent();
        operators();
        divisions();
        elements();
        sizes();
        newRows();
        rowsOfRows();
        stores();
        marks();
        calls();
        returns();
        ifs();
        loops();
        leaving();
        throwing();
        failures();
        leavingMethods();
        guards();
        finishing();
        finishingCombined();
        resources();
        closings();
        planned();
        end("RunBoundariesTest");
    }

    private static void activations() {
        sentence("An activation of a method has its own variables (32 bits; variables 0 and 1 are the two numbers, the others 0) and "
                + "its own rows (each refers to an array of such numbers, or to none, as at first).");
        String text = "method{return v0;}method{return v1;}method{return v2;}method{return v3;}method{return v4;}method{return v5;}"
                + "method{v2=v2+1;v5=v5+3;r0=row 1;if v0>0{v3=call m6(v0-1,v1);}return v2+v3*10+v5*1000;}";
        each(text, (x, which) -> {
            // Not each with each other: an object is used for 512 calls.
            for (int i = 0; i < EXTREMES.length; i++) {
                int a = EXTREMES[i];
                int b = EXTREMES[EXTREMES.length - 1 - i];
                for (int m = 0; m < 6; m++) {
                    due("run", x.run(tree(which), m, a, b, 400), RETURNED);
                    due("variable " + m, x.ran(which, 1), m == 0 ? a : m == 1 ? b : 0);
                }
            }
        });
        each(text, (x, which) -> {
            for (int i = 0; i < 2; i++) {
                due("run", x.run(tree(which), 6, 2, 0, 400), RETURNED);
                due("own variables", x.ran(which, 1), 3001 + 10 * (3001 + 10 * 3001));
            }
        });
        // A call, also one that throws, leaves those of its caller as they are.
        for (int v = 0; v <= 5; v++) {
            String own = "v0=90;v1=91;v2=92;v3=93;v4=94;v5=95;";
            String other = "method{v0=1;v1=2;v2=3;v3=4;v4=5;v5=6;";
            gives("method{" + own + "guard{call m1(1,2);}catch k3{}return v" + v + ";}" + other + "throw k3;}", 0, 0, 90 + v);
            gives("method{" + own + "loop 2{call m1(1,2);}return v" + v + ";}" + other + "return 8;}", 0, 0, 90 + v);
        }
        for (int r = 0; r < 3; r++) {
            gives("return size r" + r + ";", THROWS - 4);
            gives("return r" + r + "[0];", THROWS - 4);
            // The rows of an activation before it, and of its caller, are not its own.
            gives("method{r" + r + "=row 3;v2=call m1(0,0);return size r" + r + ";}method{guard{return size r" + r
                    + ";}catch k4{r" + r + "=row 5;}}", 0, 0, 3);
            gives("method{call m1(0,0);call m1(0,0);}method{guard{return size r" + r + ";}catch k4{r" + r + "=row 5;}}", 0, 0, 0);
            gives("method{call m1(0,0);v2=call m2(0,0);return v2;}method{r" + r + "=row 5;}method{return size r" + r + ";}", 0, 0,
                    THROWS - 4);
        }
        gives("method{call m1(0,0);v2=call m2(0,0);return v2;}method{v0=1;v1=2;v2=3;v3=4;v4=5;v5=6;}method{return "
                + "v0+v1+v2+v3+v4+v5;}", 9, 9, 0);

        sentence("Its statements are executed in order; at the end of the method it returns 0.");
        gives("", 0);
        gives("v0=5;", 0);
        gives("v2=5;v2=v2*2;v2=v2+1;return v2;", 11);
        gives("method{v2=7;v2=call m1(0,0);return v2;}method{v2=9;}", 0, 0, 0);
        gives("method{v2=7;v2=call m1(0,0);return v2;}method{guard{if 1=1{v2=1;}}finally{}}", 0, 0, 0);
    }

    private static void statementOfAnActivation() {
        sentence("The statement of an activation is the one that is being executed; during a call it is the statement with the call.");
        each("method{mark 1;v2=call m1(0,0);}method{loop 1{if 1=1{call m2(0,0);}}}method{with 1{mark 2;mark 3;}}", (x, which) -> {
            int[][] at = {{5, 1}, {6, 0}, {7, 0}, {5, 4}};
            for (int[] part : at) {
                x.clear();
                plan(x, part[0], part[1], 1, 5);
                due("run", x.run(tree(which), 0, 0, 0, 400), THROWN);
                due("innermost", x.trace(which, 0, 0), 2000 + part[0]);
                due("its caller", x.trace(which, 0, 1), 1004);
                due("the first one", x.trace(which, 0, 2), 1);
                due("no more", x.trace(which, 0, 3), NONE);
                due("statement", x.failure(which, 0, 4), part[0]);
            }
        });
        // The statement of a loop, an if, or a call whose sum throws.
        String[] heads = {"loop 1/0{}", "if 1/0=1{}", "if 1=1/0{}", "call m0(1/0,0);", "r0=row 1/0;", "return 1/0;", "throw k2;"};
        for (String head : heads) {
            each(in("mark 1;if 1=1{mark 2;" + head + "}mark 3;"), (x, which) -> {
                due("run", x.run(tree(which), 0, 0, 0, 400), THROWN);
                due("statement of " + head, x.failure(which, 0, 4), 3);
                due("trace of " + head, x.trace(which, 0, 0), 3);
            });
        }
        // The statement after a block has ended is the one that goes on, not the last one of the block.
        each(in("with 2{mark 1;}"), (x, which) -> {
            plan(x, 0, 5, 1, 3, 0, 4, 1, 3);
            due("run", x.run(tree(which), 0, 0, 0, 400), THROWN);
            due("statement", x.failure(which, 0, 4), 0);
            due("statement", x.failure(which, 1, 4), 0);
            due("trace", x.trace(which, 1, 0), 0);
        });
    }

    /** A run takes so many steps; with one less it is spent, with just as many it is not. */
    private static void takes(String text, int steps) {
        each(text, (x, which) -> {
            int ended = x.run(tree(which), 0, 7, -3, 400);
            due("steps of " + text, x.ran(which, 9), steps);
            due("just as many for " + text, x.run(tree(which), 0, 7, -3, steps), ended);
            due("steps of " + text, x.ran(which, 9), steps);
            if (steps > 0) {
                due("one less for " + text, x.run(tree(which), 0, 7, -3, steps - 1), SPENT);
                due("all are taken by " + text, x.ran(which, 9), steps - 1);
                due("none for " + text, x.run(tree(which), 0, 7, -3, 0), SPENT);
                due("none is taken by " + text, x.ran(which, 9), 0);
            }
        });
    }

    private static void steps() {
        sentence("A step is taken when a statement begins, when a turn of a loop begins, and for each opening and each closing of a "
                + "resource.");
        takes(in(""), 0);
        for (String one : new String[] {"mark 1;", "v0=1+2*3;", "r0=row 1;", "r0=none;", "r0=r1;", "return v0;", "throw k1;",
            "r0[1/0]=1;", "if 1=1{}", "if 1<1{}else{}", "loop 0{}", "guard{}finally{}", "guard{}catch k0{}"}) {
            takes(in(one), 1);
        }
        takes(in("loop 1{}"), 2);
        takes(in("loop 3{}"), 4);
        takes(in("loop 3{mark 1;}"), 7);
        takes(in("loop 3{next 1;}"), 7);
        takes(in("loop 3{leave 1;}"), 3);
        takes(in("loop 2{loop 2{}}"), 9);
        takes(in("with 1{}"), 3);
        takes(in("with 2{}"), 5);
        takes(in("with 3{}"), 7);
        takes(in("with 3{mark 1;}finally{mark 2;}"), 9);
        takes(in("with 1{throw k3;}catch k3{}"), 4);
        takes(in("guard{throw k3;}catch k3{mark 1;}finally{mark 2;}"), 4);
        takes(in("guard{return 1;}finally{}"), 2);
        takes("method{call m1(0,0);v0=call m1(0,0);}method{}", 2);
        takes("method{call m1(0,0);v0=call m1(0,0);}method{mark 1;}", 4);
        takes(in("if 1=1{mark 1;}else{mark 2;mark 3;}"), 2);
        takes(in("if 1>1{mark 1;}else{mark 2;mark 3;}"), 3);
        takes(in("call m0(0,0);"), 12);
        // An opening or closing that throws has taken its step.
        each(in("with 3{}"), (x, which) -> {
            int[] steps = {0, 2, 4, 6, 7, 7, 7};
            for (int part = 1; part <= 6; part++) {
                x.clear();
                plan(x, 0, part, 1, 1);
                due("run", x.run(tree(which), 0, 0, 0, 400), THROWN);
                due("steps with part " + part, x.ran(which, 9), part == 1 ? 2 : steps[part]);
            }
        });
    }

    private static void spent() {
        sentence("If a step is to be taken and none is left, the run is spent: it ends there, and nothing more is done.");
        each(in("guard{mark 1;mark 2;}catch k0{mark 4;}finally{mark 3;}"), (x, which) -> {
            int[][] tapes = {{}, {}, {1}, {1, 2}, {1, 2, 3}};
            for (int limit = 0; limit < tapes.length; limit++) {
                int ended = x.run(tree(which), 0, 0, 0, limit);
                due("ended with " + limit, ended, limit == 4 ? RETURNED : SPENT);
                tape(x, which, tapes[limit]);
                due("entered with " + limit, x.entered(which, 0), limit >= 3 ? 1 : 0);
                due("ended by none", x.ran(which, 2), NONE);
            }
        });
        each(in("with 2{throw k3;}catch k3{mark 1;}finally{mark 2;}"), (x, which) -> {
            int[] opened = {0, 0, 1, 2, 2, 2, 2, 2, 2}, closed = {0, 0, 0, 0, 0, 1, 2, 2, 2}, marks = {0, 0, 0, 0, 0, 0, 0, 1, 2};
            for (int limit = 0; limit <= 8; limit++) {
                due("ended with " + limit, x.run(tree(which), 0, 0, 0, limit), limit == 8 ? RETURNED : SPENT);
                due("steps", x.ran(which, 9), limit);
                due("opened", x.ran(which, 5), opened[limit]);
                due("closed", x.ran(which, 6), closed[limit]);
                due("marks", x.ran(which, 3), marks[limit]);
                due("made", x.ran(which, 4), limit >= 4 ? 1 : 0);
                due("entered", x.entered(which, 0), limit >= 7 ? 1 : 0);
                due("ended by none", x.ran(which, 2), NONE);
                due("returned", x.ran(which, 1), 0);
            }
        });
        // An exception, a return and a leave that are on their way, at closings and in finishing blocks.
        for (String out : new String[] {"throw k3;", "return 9;", "leave 1;", "next 1;"}) {
            each(in("loop 1{guard{with 1{" + out + "}}finally{mark 1;}}"), (x, which) -> {
                for (int limit = 6; limit <= 7; limit++) {
                    due("ended with " + limit, x.run(tree(which), 0, 0, 0, limit), SPENT);
                    due("returned", x.ran(which, 1), 0);
                    due("ended by none", x.ran(which, 2), NONE);
                    due("closed", x.ran(which, 6), limit - 6);
                    due("entered", x.entered(which, 1), limit - 6);
                    due("lost", x.ran(which, 7), 0);
                    tape(x, which);
                }
            });
        }
        // In a call: the callers' finishing blocks are not entered either.
        each("method{guard{call m1(0,0);}catch k0{mark 1;}finally{mark 2;}}method{with 1{loop 9999{}}finally{mark 3;}}",
                (x, which) -> {
                    due("ended", x.run(tree(which), 0, 0, 0, 400), SPENT);
                    due("steps", x.ran(which, 9), 400);
                    due("entered", x.entered(which, 0), 0);
                    due("entered", x.entered(which, 4), 0);
                    due("closed", x.ran(which, 6), 0);
                    tape(x, which);
                });
        // A call whose first statement has no step left has been made; a sum that is not reached throws nothing.
        each("method{call m1(0,0);}method{return 1/0;}", (x, which) -> {
            due("ended", x.run(tree(which), 0, 0, 0, 1), SPENT);
            due("deepest", x.ran(which, 8), 2);
            due("made", x.ran(which, 4), 0);
        });
    }

    private static void operators() {
        sentence("Sums: operators are evaluated from the left, with the usual precedence; + - * and the unary - wrap.");
        gives("return 2+3*4;", 14);
        gives("return 2*3+4;", 10);
        gives("return 10-4-3;", 3);
        gives("return 10-4+3;", 9);
        gives("return 100/7/2;", 7);
        gives("return 100/7*2;", 28);
        gives("return 100%7*3;", 6);
        gives("return 7*3%4;", 1);
        gives("return -2*3;", -6);
        gives("return -7/2;", -3);
        gives("return 1--1;", 2);
        gives("return 20-3*4-5;", 3);
        gives("return 1/0+size r0;", THROWS - 2);
        gives("return size r0+1/0;", THROWS - 4);
        gives("return size r0*(1/0);", THROWS - 4);
        gives("return 1+size r0*(1/0);", THROWS - 4);
        gives("return r1[9]+1/0;", THROWS - 4);
        gives("return 0*(1/0)+size r0;", THROWS - 2);
        gives("return " + MOST_SUM + "+1;", LEAST);
        gives("return " + LEAST_SUM + "-1;", MOST);
        gives("return -" + LEAST_SUM + ";", LEAST);
        gives("return 9999*9999*9999;", 9999 * 9999 * 9999);
        // Sums that an exception or the end of a run cuts off leave nothing behind.
        gives("loop 80{guard{v2=1+(2+(3+1/0));}catch k0{}}return 2+3*v0;", 23);
        each("method{return 1+(2+(3+v0/v1));}method{with 1{return 1+v0;}}", (x, which) -> {
            for (int i = 0; i < 70; i++) {
                due("run", x.run(tree(which), 0, i, 0, 400), THROWN);
            }
            for (int i = 0; i < 70; i++) {
                due("run", x.run(tree(which), 1, i, 0, 3), SPENT);
            }
            due("run", x.run(tree(which), 0, 6, 2, 400), RETURNED);
            due("returned", x.ran(which, 1), 9);
        });
        for (int a : EXTREMES) {
            gives("method{return -v0;}", a, 0, -a);
            for (int b : EXTREMES) {
                gives("method{return v0+v1;}", a, b, a + b);
                gives("method{return v0-v1;}", a, b, a - b);
                gives("method{return v0*v1;}", a, b, a * b);
            }
        }
    }

    private static void divisions() {
        sentence("/ and % work as in Java; a division by 0 throws kind 2.");
        for (int a : EXTREMES) {
            for (int b : EXTREMES) {
                gives("method{return v0/v1;}", a, b, b == 0 ? THROWS - 2 : a / b);
                gives("method{return v0%v1;}", a, b, b == 0 ? THROWS - 2 : a % b);
            }
        }
        gives("return " + LEAST_SUM + "/(0-1);", LEAST);
        gives("return " + LEAST_SUM + "%(0-1);", 0);
        gives("return 0/0;", THROWS - 2);
        gives("return 0%0;", THROWS - 2);
        gives("return 5%(v0-7);", THROWS - 2);
        gives("guard{v2=1;v2=5/v2/(v2-1);}catch k2{return v2;}", 1);
    }

    private static void elements() {
        sentence("VAR = sum sets a variable.");
        for (int a : EXTREMES) {
            for (int v = 0; v <= 5; v++) {
                gives("method{v" + v + "=v0;return v" + v + ";}", a, 0, a);
            }
        }
        gives("guard{v0=v0+1/0;}catch k2{}return v0;", 7);

        sentence("ROW [ sum ] is the element of the array at this index, which is evaluated first; then kind 4 is thrown if the row "
                + "refers to no array, and kind 3 if there is no such element.");
        for (int length = 0; length <= 8; length++) {
            String text = "method{r0=row " + length + ";v2=v0;loop v0{v2=v2-1;r0[v2]=10*v2+5;}return r0[v1];}";
            for (int index = -1; index <= 9; index++) {
                gives(text, length, index, index >= 0 && index < length ? 10 * index + 5 : THROWS - 3);
            }
            gives(text, length, LEAST, THROWS - 3);
            gives(text, length, MOST, THROWS - 3);
            gives(text, length, 65536, THROWS - 3);
        }
        gives("return r0[1/0];", THROWS - 2);
        gives("return r0[r1[0]/0];", THROWS - 4);
        gives("r1=row 1;return r0[1/r1[0]];", THROWS - 2);
        gives("return r0[0];", THROWS - 4);
        gives("return r0[-1];", THROWS - 4);
        gives("return r0[9];", THROWS - 4);
        gives("r0=row 0;return r0[0];", THROWS - 3);
        gives("r0=row 1;r0=none;return r0[0];", THROWS - 4);
        gives("r0=row 2;r0[0]=" + LEAST_SUM + ";r0[1]=-9;return r0[0]-r0[1];", LEAST + 9);
    }

    private static void sizes() {
        sentence("size ROW is the length of the array; it throws kind 4 if there is none.");
        for (int length = 0; length <= 8; length++) {
            gives("r1=row " + length + ";return size r1;", length);
        }
        gives("return size r1;", THROWS - 4);
        gives("r0=row 1;return size r1;", THROWS - 4);
        gives("r1=row 1;r1=none;return size r1;", THROWS - 4);
        gives("r1=row 1;r1=r0;return size r1;", THROWS - 4);
    }

    private static void newRows() {
        sentence("ROW = row sum makes the row refer to a new array of this length, with all elements 0; kind 5 is thrown if the "
                + "length is below 0 or above 8.");
        String text = "method{r0=row v0;v3=1;loop size r0{if r0[v3-1]=0{v4=v4+1;}v3=v3+1;}return v4*10+size r0;}";
        for (int length : new int[] {LEAST, -65536, -9, -1, 0, 1, 2, 3, 4, 5, 6, 7, 8, 9, 10, 16, 65536, MOST}) {
            gives(text, length, 0, length < 0 || length > 8 ? THROWS - 5 : 11 * length);
        }
        // A new array each time, with 0 although there was an array with other elements before.
        gives("r0=row 8;loop 8{v2=v2+1;r0[v2-1]=v2;}r1=r0;r0=row 8;return r0[0]+r0[7]+100*(r1[0]+r1[7]);", 900);
        gives("loop 3{r0=row 8;v2=v2+r0[7];r0[7]=5;}return v2;", 0);
        gives("method{call m1(0,0);v2=call m1(0,0);return v2;}method{r2=row 3;v2=r2[2];r2[2]=8;return v2;}", 0, 0, 0);
        // If kind 5 is thrown, the row refers to what it did.
        gives("r0=row 2;guard{r0=row 9;}catch k5{}return size r0;", 2);
        gives("r0=row 2;guard{r0=row -1;}catch k5{}return size r0;", 2);
        gives("guard{r0=row 9;}catch k5{}return size r0;", THROWS - 4);
        gives("r0=row 1/0;", THROWS - 2);
        // In a run before this one the array had other elements.
        each(in("r0=row 8;v2=r0[v0];r0[v0]=9;return v2;"), (x, which) -> {
            for (int i = 0; i < 8; i++) {
                due("run", x.run(tree(which), 0, i, 0, 400), RETURNED);
                due("element", x.ran(which, 1), 0);
                due("run", x.run(tree(which), 0, 7 - i, 0, 400), RETURNED);
                due("element", x.ran(which, 1), 0);
            }
        });
        each(in("loop 198{r0=row 8;}return size r0;"), (x, which) -> {
            for (int i = 0; i < 5; i++) {
                due("run", x.run(tree(which), 0, 0, 0, 400), RETURNED);
                due("the last array", x.ran(which, 1), 8);
            }
        });
        // As many arrays as there may be in a run.
        gives("loop 99{r0=row 8;r0[7]=v2;v2=r0[7]+1;}return v2;", 99);
        gives("method{" + "call m1(0,0);".repeat(5) + "return 5;}method{" + "r1=row 8;".repeat(74) + "}", 0, 0, 5);
    }

    private static void rowsOfRows() {
        sentence("ROW = none: the row refers to no array. ROW = ROW: the first row refers to what the second one refers to.");
        gives("r0=none;return size r0;", THROWS - 4);
        gives("r0=row 3;r0=none;return size r0;", THROWS - 4);
        gives("r0=row 3;r1=r0;r0=none;return size r1;", 3);
        gives("r0=row 3;r1=r0;r1[2]=6;return r0[2];", 6);
        gives("r0=row 3;r1=r0;r2=r1;r2[0]=6;r1=none;return r0[0];", 6);
        gives("r0=row 3;r0[1]=4;r0=r0;return r0[1];", 4);
        gives("r0=r0;return size r0;", THROWS - 4);
        gives("r0=row 3;r0=r1;return size r0;", THROWS - 4);
        gives("r0=row 3;r1=row 4;r0=r1;r1=row 5;return size r0*10+size r1;", 45);
    }

    private static void stores() {
        sentence("ROW [ a ] = b: a is evaluated, then b, then kind 4 or 3 is thrown as above, or the element is set.");
        gives("r0[1/0]=size r1;", THROWS - 2);
        gives("r0[size r1]=1/0;", THROWS - 4);
        gives("r0[0]=1/0;", THROWS - 2);
        gives("r0[-1]=1/0;", THROWS - 2);
        gives("r0=row 1;r0[1]=1/0;", THROWS - 2);
        gives("r0=row 1;r0[9]=size r1;", THROWS - 4);
        gives("r0[0]=1;", THROWS - 4);
        gives("r0[-1]=1;", THROWS - 4);
        for (int length = 0; length <= 8; length++) {
            String text = "method{r1=row 8;r0=row " + length + ";r2=row 8;r0[v0]=v1;return r0[v0]+r1[0]+r1[7]+r2[0]+r2[7];}";
            for (int index = -1; index <= 9; index++) {
                gives(text, index, 33, index >= 0 && index < length ? 33 : THROWS - 3);
            }
            gives(text, LEAST, 33, THROWS - 3);
            gives(text, MOST, 33, THROWS - 3);
        }
        gives("method{r0=row 8;r0[0]=v0;r0[7]=v1;return r0[0]/2-r0[7]/2;}", MOST, LEAST, MOST / 2 - LEAST / 2);
        for (int r = 0; r < 3; r++) {
            int place = r == 0 ? 1 : r == 1 ? 10 : 100;
            String three = "r0=row 2;r1=row 3;r2=row 4;r" + r + "[1]=7;";
            gives(three + "return r0[1]+10*r1[1]+100*r2[1];", 7 * place);
            gives(three + "v4=1;v5=2;r" + r + "[1]=8;return r0[1]+10*r1[1]+100*r2[1];", 8 * place);
            gives(three + "return size r" + r + ";", 2 + r);
            gives(three + "r" + r + "[" + (2 + r) + "]=1;", THROWS - 3);
            gives(three + "r" + r + "=none;r" + r + "[0]=1;", THROWS - 4);
        }
        gives("r0=row 2;r0[0]=1;guard{r0[0]=1/0;}catch k2{}return r0[0];", 1);
        gives("r0=row 3;r0[r0[0]]=r0[1]+5;return r0[0];", 5);
    }

    private static void marks() {
        sentence("mark: the number is appended to the tape.");
        each(in("mark 0;mark 9999;mark 0;mark 0009;"), (x, which) -> {
            x.run(tree(which), 0, 0, 0, 400);
            tape(x, which, 0, 9999, 0, 9);
        });
        // As many marks as there may be in a run.
        each("method{" + "call m1(0,0);".repeat(6) + "}method{" + "mark 1;".repeat(73) + "mark 2;}", (x, which) -> {
            due("run", x.run(tree(which), 0, 0, 0, 400), SPENT);
            due("marks", x.ran(which, 3), 394);
            due("the last one", x.mark(which, 393), 1);
            due("the last one of a call", x.mark(which, 73), 2);
            due("that of the fifth", x.mark(which, 369), 2);
            due("no more", x.mark(which, 394), NONE);
        });
        sentence("Part 0 is that of a mark, which then appends nothing;");
        each(in("mark 4;guard{mark 5;}catch k0{}mark 6;"), (x, which) -> {
            plan(x, 2, 0, 1, 3);
            due("run", x.run(tree(which), 0, 0, 0, 400), RETURNED);
            tape(x, which, 4, 6);
            due("statement", x.failure(which, 0, 4), 2);
        });
    }

    private static void calls() {
        sentence("call: both sums are evaluated; then kind 6 is thrown if 12 methods are being executed. Otherwise the method is "
                + "executed; VAR = call sets the variable to what it returns.");
        String text = "method{if v0<v1{v2=call m0(v0+1,v1);return v2+1;}return 1;}";
        for (int depth = 1; depth <= 12; depth++) {
            gives(text, 1, depth, depth);
        }
        gives(text, 1, 13, THROWS - 6);
        gives(text, 1, MOST, THROWS - 6);
        each(text, (x, which) -> {
            for (int depth = 1; depth <= 13; depth++) {
                x.run(tree(which), 0, 1, depth, 400);
                due("deepest", x.ran(which, 8), Math.min(depth, 12));
            }
            due("statement", x.failure(which, 0, 4), 1);
            due("methods", x.failure(which, 0, 5), 12);
            due("the outermost", x.trace(which, 0, 11), 1);
            due("no more", x.trace(which, 0, 12), NONE);
        });
        // In the twelfth one, the sums first.
        gives("method{if v0=11{call m0(1/0,0);}call m0(v0+1,0);}", 0, 0, THROWS - 2);
        gives("method{if v0=11{call m0(0,size r0);}call m0(v0+1,0);}", 0, 0, THROWS - 4);
        gives("method{if v0=11{call m0(size r0,1/0);}call m0(v0+1,0);}", 0, 0, THROWS - 4);
        // Methods that have ended are not counted.
        gives("method{loop 40{call m1(0,0);v2=v2+1;}return v2;}method{}", 0, 0, 40);
        gives("method{guard{call m0(v0,v1);}catch k6{guard{call m0(v0,v1);}catch k6{return 6;}}return 7;}", 0, 0, 7);
        // The innermost of the 12 returns 5, each of the others one more.
        gives("v2=5;guard{v2=call m0(1,2);}catch k6{return v2;}return v2+1;", 16);
        gives("method{v2=5;guard{v2=call m1(0,0);}catch k0{}return v2;}method{throw k3;}", 0, 0, 5);
        gives("method{v2=5;call m1(0,0);return v2;}method{return 8;}", 0, 0, 5);
        gives("method{v2=5;v2=call m1(v2,v2+1);return v2;}method{return v0*100+v1;}", 0, 0, 506);
        gives("method{v2=call m1(0,0);return v2;}method{return 0-9;}", 0, 0, -9);
    }

    private static void returns() {
        sentence("return: the method returns the value of the sum.");
        for (int a : EXTREMES) {
            gives("method{return v0;}", a, 0, a);
            gives("method{v2=call m1(v0,0);return v2;}method{loop 2{guard{return v0;}finally{v0=5;}}}", a, 0, a);
        }
        gives("return 1;return 2;", 1);
        gives("return 1/0;return 2;", THROWS - 2);
    }

    private static void ifs() {
        sentence("if: the first block is executed if the comparison of both sums is true, otherwise the block after else.");
        for (int a : EXTREMES) {
            for (int b : EXTREMES) {
                gives("method{if v0=v1{v2=1;}else{v2=2;}if v0<v1{v2=v2+10;}else{v2=v2+20;}if v0>v1{v2=v2+100;}else{v2=v2+200;}"
                        + "return v2;}", a, b, (a == b ? 1 : 2) + (a < b ? 10 : 20) + (a > b ? 100 : 200));
            }
        }
        gives("if 1=2{v2=1;}return v2;", 0);
        gives("if 1=1{}else{v2=1;}return v2;", 0);
        gives("if 1/0=size r0{}", THROWS - 2);
        gives("if size r0=1/0{}", THROWS - 4);
    }

    private static void loops() {
        sentence("loop: the sum is evaluated once; the block is executed so many times (turns), not at all if the value is below 1.");
        for (int value : new int[] {LEAST, -65536, -1, 0, 1, 2, 100, 199}) {
            gives("method{loop v0{v2=v2+1;}return v2;}", value, 0, Math.max(0, value));
        }
        gives("method{loop v0{v2=v2+1;}return v2;}", 200, 0, IS_SPENT);
        gives("method{loop v0{}}", MOST, 0, IS_SPENT);
        gives("method{loop v0{}return 5;}", 398, 0, 5);
        gives("method{loop v0{}return 5;}", 399, 0, IS_SPENT);
        gives("v3=2;loop v3{v3=9;v2=v2+1;}return v2;", 2);
        gives("v3=2;loop v3{v3=0;v2=v2+1;}return v2;", 2);
        gives("loop 1/0{}", THROWS - 2);
        // The inner loop anew in each turn of the outer one.
        gives("loop 3{v3=v3+1;loop v3{v2=v2+1;}}return v2;", 6);
    }

    private static void leaving() {
        sentence("leave k ends the k-th loop around it (1 is the innermost one); next k ends the present turn of that loop.");
        String six = "loop 2{".repeat(6);
        for (int k = 1; k <= 6; k++) {
            gives(six + "v2=v2+1;leave " + k + ";" + "}".repeat(6) + "return v2;", 1 << 6 - k);
            gives(six + "v2=v2+1;next " + k + ";" + "}".repeat(6) + "return v2;", 1 << 7 - k);
        }
        gives("loop 3{v2=v2+1;loop 3{leave 1;}v2=v2+10;}return v2;", 33);
        gives("loop 3{v2=v2+1;loop 3{leave 2;}v2=v2+10;}return v2;", 1);
        gives("loop 3{v2=v2+1;loop 3{next 2;}v2=v2+10;}return v2;", 3);
        gives("loop 3{v2=v2+1;loop 3{next 1;}v2=v2+10;}return v2;", 33);
        // The last turn, and one that was the only one.
        gives("loop 1{v2=v2+1;next 1;v2=9;}return v2;", 1);
        gives("loop 1{v2=v2+1;leave 1;v2=9;}return v2;", 1);
        gives("loop 4{v2=v2+1;if v2=4{leave 1;}}return v2;", 4);
    }

    private static void throwing() {
        sentence("throw: an exception of this kind is made and thrown. wrap: an exception of this kind is made and thrown, whose cause "
                + "is the exception that the innermost catch around it (in the method) has caught. again throws the exception that "
                + "this catch has caught once more.");
        for (int k = 0; k < 9; k++) {
            gives("kind under k0;kind under k7;method{throw k" + k + ";}", 0, 0, THROWS - k);
        }
        each(in("guard{throw k2;}catch k2{guard{throw k3;}catch k3{wrap k4;}}"), (x, which) -> {
            due("run", x.run(tree(which), 0, 0, 0, 400), THROWN);
            due("made", x.ran(which, 4), 3);
            due("the innermost one", x.failure(which, 2, 1), 1);
            due("kind", x.failure(which, 2, 0), 4);
            due("no cause", x.failure(which, 1, 1), NONE);
            due("no cause", x.failure(which, 0, 1), NONE);
        });
        // Behind the inner catch, in its guard's finally and in a guard's block it is the outer one.
        each(in("guard{throw k2;}catch k2{guard{throw k3;}catch k3{}wrap k4;}"), (x, which) -> {
            x.run(tree(which), 0, 0, 0, 400);
            due("the outer one", x.failure(which, 2, 1), 0);
        });
        each(in("guard{throw k2;}catch k2{guard{throw k3;}catch k3{}finally{wrap k4;}}"), (x, which) -> {
            x.run(tree(which), 0, 0, 0, 400);
            due("the outer one", x.failure(which, 2, 1), 0);
        });
        each(in("guard{throw k2;}catch k2{guard{wrap k5;}catch k5{wrap k4;}}"), (x, which) -> {
            x.run(tree(which), 0, 0, 0, 400);
            due("the outer one", x.failure(which, 1, 1), 0);
            due("the inner one", x.failure(which, 2, 1), 1);
        });
        each(in("guard{throw k2;}catch k2{guard{again;}catch k2{guard{again;}catch k1{again;}}}"), (x, which) -> {
            due("run", x.run(tree(which), 0, 0, 0, 400), THROWN);
            due("again makes none", x.ran(which, 4), 1);
            due("the same one", x.ran(which, 2), 0);
            due("its statement", x.failure(which, 0, 4), 1);
        });
        gives("guard{throw k2;}catch k2{guard{throw k3;}catch k3{again;}}", THROWS - 3);
        gives("guard{throw k2;}catch k2{guard{throw k3;}catch k3{}again;}", THROWS - 2);
        gives("guard{throw k2;}catch k2{guard{throw k3;}catch k3{}finally{again;}}", THROWS - 2);
        // A call within does not change what was caught.
        gives("method{guard{throw k2;}catch k2{guard{call m1(0,0);}catch k3{}again;}}method{guard{throw k4;}catch k4{throw k3;}}", 0,
                0, THROWS - 2);
    }

    private static void failures() {
        sentence("Exceptions are also made and thrown by the sums and calls described, and by the plan (see below).");
        String[] throwing = {"v0=1/0;", "v0=1%0;", "r0=row 1;v0=r0[1];", "v0=size r0;", "r0[0]=1;", "r0=row 9;", "call m0(v0,v1);"};
        int[] kinds = {2, 2, 3, 4, 4, 5, 6};
        for (int i = 0; i < throwing.length; i++) {
            gives(throwing[i], THROWS - kinds[i]);
            gives("guard{" + throwing[i] + "}catch k" + kinds[i] + "{return 5;}", kinds[i] == 6 ? 0 : 5);
        }
        each(in("guard{mark 1;}catch k4{return 5;}"), (x, which) -> {
            plan(x, 1, 0, 1, 4);
            due("run", x.run(tree(which), 0, 0, 0, 400), RETURNED);
            due("caught", x.ran(which, 1), 5);
        });

        sentence("Each has a number, from 0 on, in the order in which they are made in the run; a kind; the statement of the activation "
                + "that made it (for openings and closings: the statement with); a cause, or none; and a list of suppressed "
                + "exceptions, empty at first.");
        each("method{guard{throw k3;}catch k0{guard{v0=1/0;}catch k0{guard{call m1(0,0);}catch k0{guard{mark 1;}catch k0{"
                + "with 1{}}}}}}method{r0=row 9;}", (x, which) -> {
                    plan(x, 7, 0, 1, 4, 8, 1, 1, 6);
                    for (int i = 0; i < 2; i++) {
                        due("run", x.run(tree(which), 0, 7, 0, 400), THROWN);
                        int[][] want = {{3, 1, 1}, {2, 3, 1}, {5, 9, 2}, {4, 7, 1}, {6, 8, 1}};
                        due("made", x.ran(which, 4), want.length);
                        due("the last one ended it", x.ran(which, 2), 4);
                        for (int e = 0; e < want.length; e++) {
                            due("kind of " + e, x.failure(which, e, 0), want[e][0]);
                            due("cause of " + e, x.failure(which, e, 1), NONE);
                            due("suppressed under " + e, x.failure(which, e, 2), NONE);
                            due("next of " + e, x.failure(which, e, 3), NONE);
                            due("statement of " + e, x.failure(which, e, 4), want[e][1]);
                            due("methods at " + e, x.failure(which, e, 5), want[e][2]);
                        }
                        due("no more", x.failure(which, want.length, 0), NONE);
                    }
                });
        // As many exceptions as there may be.
        String text = "loop 9999{guard{" + "guard{throw k2;}finally{".repeat(4) + "throw k4;" + "}".repeat(5) + "catch k0{}}";
        each(in(text), (x, which) -> {
            due("run", x.run(tree(which), 0, 0, 0, 400), SPENT);
            // A turn has 11 steps and makes 5; after 36 turns there are 3 steps left.
            due("made", x.ran(which, 4), 180);
            due("the last one", x.failure(which, 179, 0), 4);
            due("no more", x.failure(which, 180, 0), NONE);
        });
    }

    private static void leavingMethods() {
        sentence("An exception that leaves a method is thrown by the statement that called it; if it leaves the first method, it ends "
                + "the run.");
        gives("method{guard{call m1(0,0);}catch k3{return 1;}return 2;}method{throw k3;}", 0, 0, 1);
        gives("method{guard{v2=call m1(0,0);v2=7;}catch k3{return v2;}return 2;}method{throw k3;}", 0, 0, 0);
        gives("method{guard{call m1(0,0);}catch k3{return 1;}}method{guard{throw k3;}catch k4{return 4;}finally{v2=1;}}", 0, 0, 1);
        gives("method{call m1(0,0);}method{call m2(0,0);}method{throw k3;}", 0, 0, THROWS - 3);
        each("method{with 1{call m1(0,0);}}method{with 1{call m2(0,0);}}method{with 1{throw k3;}}", (x, which) -> {
            due("run", x.run(tree(which), 0, 0, 0, 400), THROWN);
            closings(x, which, 2, 1, 0);
            due("the same one", x.ran(which, 2), 0);
            due("made", x.ran(which, 4), 1);
        });
        // From the deepest one, through all twelve.
        each("method{guard{call m0(v0+1,0);}catch k3{mark 3;}finally{mark 1;}}", (x, which) -> {
            due("run", x.run(tree(which), 0, 0, 0, 400), THROWN);
            due("marks", x.ran(which, 3), 12);
            due("entered", x.entered(which, 0), 12);
            due("ended by", x.failure(which, x.ran(which, 2), 0), 6);
        });
    }

    private static void guards() {
        sentence("guard: the first block is executed. If an exception leaves it, the first catch whose kind is the kind of the "
                + "exception, or above it (directly or indirectly), catches it, and its block is executed in place of the rest.");
        gives("guard{v2=1;throw k3;}catch k3{v2=v2+10;}return v2;", 11);
        gives("guard{v2=1;throw k3;v2=2;}catch k3{}return v2;", 1);
        gives("guard{throw k3;}catch k3{return 1;}catch k3{return 2;}", 1);
        gives("guard{throw k3;}catch k0{return 1;}catch k3{return 2;}", 1);
        gives("guard{throw k3;}catch k2{return 1;}catch k3{return 2;}", 2);
        gives("guard{throw k3;}catch k2{return 1;}catch k4{return 2;}catch k1{return 3;}", 3);
        gives("guard{throw k1;}catch k3{return 1;}", THROWS - 1);
        gives("guard{throw k0;}catch k1{return 1;}", THROWS);
        gives("guard{throw k0;}catch k0{return 1;}", 1);
        gives("guard{v2=4;}catch k0{v2=5;}return v2;", 4);
        gives("guard{throw k3;}" + "catch k2{}".repeat(80) + "catch k3{return 8;}", 8);
        // A catch does not take what a catch of the same guard throws.
        gives("guard{throw k3;}catch k3{throw k4;}catch k4{return 1;}catch k0{return 2;}", THROWS - 4);
        gives("guard{guard{throw k3;}catch k3{throw k4;}catch k4{return 1;}}catch k4{return 2;}", 2);
        String kinds = "kind under k2;kind under k7;kind under k8;";
        gives(kinds + "method{guard{throw k9;}catch k3{return 1;}catch k2{return 2;}}", 0, 0, 2);
        gives(kinds + "method{guard{throw k9;}catch k8{return 1;}catch k2{return 2;}}", 0, 0, 1);
        gives(kinds + "method{guard{throw k8;}catch k9{return 1;}catch k0{return 2;}}", 0, 0, 2);
        gives(kinds + "method{guard{v0=1/0;}catch k7{return 1;}catch k1{return 2;}}", 0, 0, 2);
    }

    private static void finishing() {
        sentence("However all this ends (at the end, by return, leave or next, or by an exception, but not if the run is spent), the "
                + "block after finally, if there is one, is entered and executed afterwards.");
        String[] ways = {"", "return 1;", "leave 1;", "next 1;", "throw k0;", "throw k3;", "throw k4;", "v0=1/0;", "call m0(v0,v1);"};
        for (String way : ways) {
            String[] guards = {"guard{" + way + "}finally{mark 1;}", "guard{" + way + "}catch k3{}finally{mark 1;}",
                "guard{throw k5;}catch k5{" + way + "}finally{mark 1;}", "with 2{" + way + "}finally{mark 1;}",
                "with 1{" + way + "}catch k3{" + way + "}finally{mark 1;}",
                "guard{throw k5;}catch k2{}catch k3{" + way + "}catch k5{" + way + "}catch k0{" + way + "}finally{mark 1;}",
                "guard{if v0=v1{" + way + "}else{" + way + "}}finally{mark 1;}"};
            for (String guard : guards) {
                // The calls end by kind 6, so each of the twelve is left by an exception.
                int times = way.startsWith("call") ? 12 : 1;
                each(in("loop 1{" + guard + "}"), (x, which) -> {
                    x.run(tree(which), 0, 7, 0, 400);
                    due("entered by " + way + " of " + guard, x.entered(which, 1), times);
                    due("executed by " + way + " of " + guard, x.ran(which, 3), times);
                });
            }
        }
        each(in("guard{loop 9999{}}finally{mark 1;}"), (x, which) -> {
            due("run", x.run(tree(which), 0, 0, 0, 400), SPENT);
            due("entered", x.entered(which, 0), 0);
            tape(x, which);
        });
        each(in("guard{throw k3;}catch k3{loop 9999{}}finally{mark 1;}"), (x, which) -> {
            due("run", x.run(tree(which), 0, 0, 0, 400), SPENT);
            due("entered", x.entered(which, 0), 0);
        });
        // A block with nothing in it is entered too, also with no step left.
        each(in("guard{}finally{}"), (x, which) -> {
            due("run", x.run(tree(which), 0, 0, 0, 1), RETURNED);
            due("entered", x.entered(which, 0), 1);
            due("run", x.run(tree(which), 0, 0, 0, 0), SPENT);
            due("not entered", x.entered(which, 0), 0);
        });
        // The inner one first.
        each(in("guard{guard{guard{return 1;}finally{mark 1;}}finally{mark 2;}}finally{mark 3;}"), (x, which) -> {
            due("run", x.run(tree(which), 0, 0, 0, 400), RETURNED);
            tape(x, which, 1, 2, 3);
        });
    }

    private static void combined(String first, String last, int want, int lost) {
        String text = in("loop 2{guard{" + first + "}finally{v2=v2+1;" + last + "}v2=v2+10;}return v2+100;");
        each(text, (x, which) -> {
            x.run(tree(which), 0, 0, 0, 400);
            due("outcome of " + text, outcome(x, which), want);
            due("lost by " + text, x.ran(which, 7), lost);
        });
    }

    private static void finishingCombined() {
        sentence("If it ends at its end, things go on as they would have without it: the return, leave, next or exception takes place. "
                + "If it ends in another way, that takes place instead; if an exception was on its way, that exception is lost.");
        String[] firsts = {"", "return v2+50;", "leave 1;", "next 1;", "throw k3;"};
        int[] atEnd = {122, 50, 101, 102, THROWS - 3};
        for (int i = 0; i < firsts.length; i++) {
            int lost = i == 4 ? 1 : 0;
            combined(firsts[i], "", atEnd[i], 0);
            combined(firsts[i], "if v2>5{leave 1;}", i == 0 ? 112 : atEnd[i], 0);
            combined(firsts[i], "return v2+60;", 61, lost);
            combined(firsts[i], "leave 1;", 101, lost);
            combined(firsts[i], "next 1;", 102, 2 * lost);
            combined(firsts[i], "throw k4;", THROWS - 4, lost);
            combined(firsts[i], "throw k0;", THROWS, lost);
            combined(firsts[i], "v0=1/0;", THROWS - 2, lost);
            // Ways out that end within the block are none out of it.
            combined(firsts[i], "loop 1{leave 1;}", atEnd[i], 0);
            combined(firsts[i], "loop 1{next 1;}", atEnd[i], 0);
            combined(firsts[i], "guard{throw k4;}catch k4{}", atEnd[i], 0);
            combined(firsts[i], "loop 1{guard{return 9;}finally{leave 1;}}", atEnd[i], 0);
            combined(firsts[i], "loop 1{guard{throw k4;}finally{next 1;}}", atEnd[i], i == 0 || i == 3 ? 2 : 1);
        }
        combined("throw k0;", "", THROWS, 0);
        combined("throw k0;", "throw k0;", THROWS, 1);
        combined("throw k0;", "leave 1;", 101, 1);
        gives("guard{guard{throw k3;}finally{throw k4;}}catch k3{return 3;}catch k4{return 4;}", 4);
        gives("guard{guard{return 1;}finally{throw k4;}}catch k4{return 4;}", 4);
        gives("guard{throw k3;}catch k3{throw k4;}finally{return 5;}", 5);
        gives("guard{return v0;}finally{v0=9;}", 7);
        // All six deep.
        String deep = "throw k3;";
        for (int i = 0; i < 6; i++) {
            deep = "guard{" + deep + "}finally{v2=v2*2+1;}";
        }
        gives("guard{}finally{}" + deep, THROWS - 3);
        gives(deep.replace("throw k3", "return 5"), 5);
        each(in(deep.replace("v2=v2*2+1;", "throw k4;")), (x, which) -> {
            due("run", x.run(tree(which), 0, 0, 0, 400), THROWN);
            due("lost", x.ran(which, 7), 6);
            due("ended by", x.ran(which, 2), 6);
        });
        each(in(deep.replace("v2=v2*2+1;", "return 8;")), (x, which) -> {
            due("run", x.run(tree(which), 0, 0, 0, 400), RETURNED);
            due("lost", x.ran(which, 7), 1);
        });
    }

    private static void resources() {
        sentence("with n: n resources are opened, one after the other; then it works like guard.");
        for (int n = 1; n <= 3; n++) {
            int resources = n;
            each(in("with " + n + "{mark 1;}"), (x, which) -> {
                due("run", x.run(tree(which), 0, 0, 0, 400), RETURNED);
                due("opened", x.ran(which, 5), resources);
                due("closed", x.ran(which, 6), resources);
                due("steps", x.ran(which, 9), 2 + 2 * resources);
            });
            gives("with " + n + "{return 5;}", 5);
            gives("with " + n + "{throw k3;}catch k2{return 2;}catch k1{return 1;}", 1);
            gives("with " + n + "{throw k3;}finally{return 4;}", 4);
            gives("with " + n + "{throw k3;}", THROWS - 3);
            gives("loop 3{with " + n + "{next 1;}v2=1;}return v2;", 0);
            gives("loop 3{v2=v2+1;with " + n + "{leave 1;}}return v2;", 1);
        }

        sentence("But however the first block ends, or if an opening throws an exception, all resources that this statement has opened "
                + "are closed, the last one first, before any catch is considered.");
        String[] ways = {"", "return 1;", "leave 1;", "next 1;", "throw k0;", "throw k3;", "throw k4;", "v0=1/0;"};
        for (String way : ways) {
            each(in("loop 1{with 3{" + way + "}catch k3{mark 1;}}"), (x, which) -> {
                x.run(tree(which), 0, 0, 0, 400);
                closings(x, which, 2, 1, 0);
            });
            each(in("loop 1{with 2{with 1{" + way + "}catch k3{with 3{" + way + "}}}}"), (x, which) -> {
                x.run(tree(which), 0, 0, 0, 400);
                if (way.equals("throw k3;")) {
                    closings(x, which, 2, 5, 4, 3, 1, 0);
                } else {
                    closings(x, which, 2, 1, 0);
                }
            });
        }
        // Ways out that are not taken; what is behind them ends the block.
        for (String not : new String[] {"return 1;", "leave 1;", "next 1;"}) {
            for (String way : ways) {
                String block = "if v0=9{" + not + "}" + way;
                each(in("loop 1{with 3{" + block + "}catch k3{mark 1;}finally{mark 2;}}"), (x, which) -> {
                    x.run(tree(which), 0, 0, 0, 400);
                    closings(x, which, 2, 1, 0);
                    due("entered", x.entered(which, 1), 1);
                });
                each(in("loop 1{guard{guard{throw k5;}catch k5{" + block + "}finally{mark 1;}}catch k3{mark 3;}finally{mark 2;}}"),
                        (x, which) -> {
                            x.run(tree(which), 0, 0, 0, 400);
                            due("entered", x.entered(which, 1), 1);
                            due("entered", x.entered(which, 2), 1);
                            due("caught", x.ran(which, 3), way.equals("throw k3;") ? 3 : 2);
                        });
            }
        }
        for (int part = 1; part <= 3; part++) {
            int failing = part;
            each(in("with 3{mark 1;}catch k5{mark 2;}finally{mark 3;}"), (x, which) -> {
                plan(x, 0, failing, 1, 5);
                due("run", x.run(tree(which), 0, 0, 0, 400), RETURNED);
                due("opened", x.ran(which, 5), failing - 1);
                due("closed", x.ran(which, 6), failing - 1);
                due("the last one first", x.closed(which, 0), failing == 1 ? NONE : failing - 2);
                due("the first one last", x.closed(which, failing - 2), failing == 1 ? NONE : 0);
                tape(x, which, 2, 3);
            });
            each(in("with 3{mark 1;}catch k4{mark 2;}finally{mark 3;}"), (x, which) -> {
                plan(x, 0, failing, 1, 5);
                due("not caught", x.run(tree(which), 0, 0, 0, 400), THROWN);
                tape(x, which, 3);
            });
        }
        // Closed before the catch: a closing's exception is there already; and before the finishing block.
        each(in("with 1{throw k3;}catch k3{wrap k2;}finally{mark 1;}"), (x, which) -> {
            plan(x, 0, 4, 1, 5);
            due("run", x.run(tree(which), 0, 0, 0, 400), THROWN);
            due("made first", x.failure(which, 1, 0), 5);
            due("made afterwards", x.failure(which, 2, 0), 2);
            due("its cause", x.failure(which, 2, 1), 0);
        });

        sentence("Resources are numbered from 0, in the order in which they are opened in the run. An opening that throws an exception "
                + "opens nothing; a resource whose closing throws is closed nevertheless.");
        each("method{with 2{call m1(0,0);with 1{}}with 1{}}method{with 2{}}", (x, which) -> {
            for (int i = 0; i < 2; i++) {
                due("run", x.run(tree(which), 0, 0, 0, 400), RETURNED);
                closings(x, which, 3, 2, 4, 1, 0, 5);
                due("opened", x.ran(which, 5), 6);
            }
        });
        each(in("with 1{guard{with 2{}}catch k0{}with 1{}}"), (x, which) -> {
            plan(x, 2, 2, 1, 3);
            due("run", x.run(tree(which), 0, 0, 0, 400), RETURNED);
            // The number that the opening would have given is the next one's.
            closings(x, which, 1, 2, 0);
            due("opened", x.ran(which, 5), 3);
        });
        each(in("with 3{}"), (x, which) -> {
            plan(x, 0, 4, 1, 3, 0, 5, 1, 3, 0, 6, 1, 3);
            due("run", x.run(tree(which), 0, 0, 0, 400), THROWN);
            closings(x, which, 2, 1, 0);
            due("opened", x.ran(which, 5), 3);
        });
    }

    private static void closings() {
        sentence("If a closing throws an exception and another one is on its way, the new one is appended to the suppressed exceptions "
                + "of that; if none is on its way, the new one is on its way, in place of a return, leave or next.");
        // On its way: that of the block, of an opening, or of a closing before.
        each(in("with 3{throw k6;}"), (x, which) -> {
            plan(x, 0, 6, 1, 2, 0, 5, 1, 3, 0, 4, 1, 4);
            due("run", x.run(tree(which), 0, 0, 0, 400), THROWN);
            due("ended by", x.ran(which, 2), 0);
            int[][] want = {{6, 1, NONE}, {2, NONE, 2}, {3, NONE, 3}, {4, NONE, NONE}};
            for (int e = 0; e < 4; e++) {
                due("kind of " + e, x.failure(which, e, 0), want[e][0]);
                due("first of " + e, x.failure(which, e, 2), want[e][1]);
                due("next of " + e, x.failure(which, e, 3), want[e][2]);
                due("cause of " + e, x.failure(which, e, 1), NONE);
            }
            due("none is lost", x.ran(which, 7), 0);
        });
        for (int kind = 0; kind <= 6; kind++) {
            int first = kind;
            each(in("with 3{throw k" + kind + ";}"), (x, which) -> {
                plan(x, 0, 6, 1, 0, 0, 4, 1, 6 - first);
                due("run", x.run(tree(which), 0, 0, 0, 400), THROWN);
                due("ended by", x.ran(which, 2), 0);
                due("under it", x.failure(which, 0, 2), 1);
                due("behind it", x.failure(which, 1, 3), 2);
                due("kind", x.failure(which, 2, 0), 6 - first);
            });
            each(in("with 3{}"), (x, which) -> {
                plan(x, 0, 6, 1, first, 0, 5, 1, 0, 0, 4, 1, 6);
                due("run", x.run(tree(which), 0, 0, 0, 400), THROWN);
                due("ended by", x.ran(which, 2), 0);
                due("under it", x.failure(which, 0, 2), 1);
                due("behind it", x.failure(which, 1, 3), 2);
            });
        }
        each(in("with 3{}"), (x, which) -> {
            plan(x, 0, 3, 1, 2, 0, 4, 1, 4);
            due("run", x.run(tree(which), 0, 0, 0, 400), THROWN);
            due("ended by", x.ran(which, 2), 0);
            due("under that of the opening", x.failure(which, 0, 2), 1);
            due("kind", x.failure(which, 1, 0), 4);
        });
        String[] ways = {"", "return 9;", "leave 1;", "next 1;"};
        for (String way : ways) {
            String text = in("loop 2{with 3{" + way + "}}return 7;");
            for (int part = 4; part <= 6; part++) {
                int failing = part;
                each(text, (x, which) -> {
                    plan(x, 1, failing, 1, 5);
                    due("run", x.run(tree(which), 0, 0, 0, 400), THROWN);
                    due("in place of " + way, x.failure(which, x.ran(which, 2), 0), 5);
                    due("returned", x.ran(which, 1), 0);
                    due("closed", x.ran(which, 6), 3);
                    due("nothing under it", x.failure(which, 0, 2), NONE);
                    due("none is lost", x.ran(which, 7), 0);
                });
                each(in("loop 2{with 3{" + way + "}catch k1{mark 1;return 8;}}return 7;"), (x, which) -> {
                    plan(x, 1, failing, 1, 5);
                    due("run", x.run(tree(which), 0, 0, 0, 400), RETURNED);
                    due("caught in place of " + way, x.ran(which, 1), 8);
                });
            }
            each(text, (x, which) -> {
                plan(x, 1, 6, 1, 2, 1, 4, 1, 3);
                due("run", x.run(tree(which), 0, 0, 0, 400), THROWN);
                due("the first one", x.ran(which, 2), 0);
                due("the second one under it", x.failure(which, 0, 2), 1);
                due("kind", x.failure(which, 1, 0), 3);
            });
        }
        // Appended behind those that were there before.
        each(in("guard{with 1{throw k3;}}catch k3{with 2{again;}}"), (x, which) -> {
            plan(x, 1, 4, 1, 2, 3, 5, 1, 4, 3, 4, 1, 5);
            due("run", x.run(tree(which), 0, 0, 0, 400), THROWN);
            due("first", x.failure(which, 0, 2), 1);
            due("second", x.failure(which, 1, 3), 2);
            due("third", x.failure(which, 2, 3), 3);
            due("no fourth", x.failure(which, 3, 3), NONE);
        });
        // Each list on its own.
        each(in("with 1{with 1{throw k3;}catch k3{throw k4;}}"), (x, which) -> {
            plan(x, 0, 4, 1, 2, 1, 4, 1, 5);
            due("run", x.run(tree(which), 0, 0, 0, 400), THROWN);
            due("under the first", x.failure(which, 0, 2), 1);
            due("under the second", x.failure(which, 2, 2), 3);
            due("alone", x.failure(which, 1, 3), NONE);
            due("kind", x.failure(which, 3, 0), 2);
        });
    }

    private static void planned() {
        sentence("An entry consists of a statement, a part, a time and a kind: when this part of the statement is passed for the time-th "
                + "time in a run, an exception of this kind is made and thrown.");
        String text = "method{loop 5{call m1(0,0);}}method{guard{mark 1;}catch k0{mark 2;}}";
        for (int time = 1; time <= 6; time++) {
            int when = time;
            each(text, (x, which) -> {
                plan(x, 3, 0, when, 4);
                for (int run = 0; run < 2; run++) {
                    due("run", x.run(tree(which), 0, 0, 0, 400), RETURNED);
                    for (int i = 1; i <= 5; i++) {
                        due("mark " + i, x.mark(which, i - 1), i == when ? 2 : 1);
                    }
                    due("made", x.ran(which, 4), when <= 5 ? 1 : 0);
                }
            });
        }
        // A passing that throws is one too; other parts, and passings with no step left, do not count.
        each(in("loop 3{guard{with 1{}}catch k0{mark 9;}}"), (x, which) -> {
            plan(x, 2, 1, 1, 3, 2, 1, 2, 4, 2, 4, 1, 5);
            due("run", x.run(tree(which), 0, 0, 0, 400), RETURNED);
            due("made", x.ran(which, 4), 3);
            int[] kinds = {3, 4, 5};
            for (int e = 0; e < 3; e++) {
                due("kind of " + e, x.failure(which, e, 0), kinds[e]);
            }
        });
        each("kind under k1;" + in("mark 1;"), (x, which) -> {
            for (int kind = 0; kind <= 7; kind++) {
                x.clear();
                plan(x, 0, 0, 1, kind);
                due("run", x.run(tree(which), 0, 0, 0, 400), THROWN);
                due("kind", x.failure(which, 0, 0), kind);
                due("no step, no passing", x.run(tree(which), 0, 0, 0, 0), SPENT);
                due("made", x.ran(which, 4), 0);
            }
        });
        // The most passings of a part that a run can have.
        String most = "method{loop 9999{mark 1;}}";
        each(most, (x, which) -> {
            plan(x, 1, 0, 199, 4, 1, 0, 400, 5);
            due("run", x.run(tree(which), 0, 0, 0, 400), THROWN);
            due("marks before", x.ran(which, 3), 198);
            due("kind", x.failure(which, 0, 0), 4);
            x.clear();
            plan(x, 1, 0, 200, 4, 1, 0, 400, 5);
            due("run", x.run(tree(which), 0, 0, 0, 400), SPENT);
            due("marks", x.ran(which, 3), 199);
        });

        sentence("the parts 1 to 3 are the opening, and 4 to 6 the closing, of the first to third resource of a with.");
        for (int part = 1; part <= 6; part++) {
            int failing = part;
            each(in("with 3{mark 1;}"), (x, which) -> {
                plan(x, 0, failing, 1, 5);
                due("run", x.run(tree(which), 0, 0, 0, 400), THROWN);
                due("opened", x.ran(which, 5), failing <= 3 ? failing - 1 : 3);
                due("marks", x.ran(which, 3), failing <= 3 ? 0 : 1);
                // What is on the way when the step of this closing is the last one that is left.
                if (failing > 3) {
                    int steps = 5 + 7 - failing;
                    due("run", x.run(tree(which), 0, 0, 0, steps), failing == 4 ? THROWN : SPENT);
                    due("made", x.ran(which, 4), 1);
                    due("run", x.run(tree(which), 0, 0, 0, steps - 1), SPENT);
                    due("made", x.ran(which, 4), 0);
                }
            });
        }

        sentence("If there are several entries for the same statement, part and time, the first one counts.");
        each(in("loop 2{guard{mark 1;}catch k0{}}"), (x, which) -> {
            plan(x, 2, 0, 2, 5, 2, 0, 1, 3, 2, 0, 1, 4, 2, 0, 2, 6);
            due("run", x.run(tree(which), 0, 0, 0, 400), RETURNED);
            due("made", x.ran(which, 4), 2);
            due("kind", x.failure(which, 0, 0), 3);
            due("kind", x.failure(which, 1, 0), 5);
        });
        List<Integer> entries = new ArrayList<>();
        for (int i = 0; i < 30; i++) {
            entries.addAll(List.of(0, 0, 1, i == 0 ? 6 : 2));
        }
        each(in("mark 1;"), (x, which) -> {
            plan(x, entries.stream().mapToInt(Integer::intValue).toArray());
            due("run", x.run(tree(which), 0, 0, 0, 400), THROWN);
            due("kind", x.failure(which, 0, 0), 6);
        });
    }
}
