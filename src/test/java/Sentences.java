import java.io.IOException;
import java.nio.file.Files;
import java.nio.file.Path;

/** What the tests of boundary cases share: the sentence that is tested, faulty and fine texts, and runs. */
class Sentences {
    static final int BAD = -1, FULL = -2, NONE = -9;
    static final int RETURNED = 0, THROWN = 1, SPENT = 2;
    static final int LEAST = Integer.MIN_VALUE, MOST = Integer.MAX_VALUE;
    /** What a run that is spent gives, and, with the kind subtracted, one that an exception ends. */
    static final int IS_SPENT = -3000, THROWS = -2000;

    /** Looks at an object whose program is compiled; which is 0 for the code, 1 for the tree. */
    interface Look {
        void at(WaysAtlas x, int which);
    }

    private static final Checks CHECKS = new Checks();
    private static final String DOCUMENT = document();
    private static String topic = "";
    private static int sentences = 0;

    private static String document() {
        try {
            return flat(Files.readString(Path.of("../shared/DOC.md")));
        } catch (IOException e) {
            throw new IllegalStateException("../shared/DOC.md cannot be read", e);
        }
    }

    private static String flat(String text) {
        return text.replaceAll("\\s+", " ").trim();
    }

    /** What follows tests these words of the document. */
    static void sentence(String words) {
        sentences++;
        topic = "\"" + (words.length() > 70 ? words.substring(0, 70) + ".." : words) + "\"";
        CHECKS.due("in DOC.md: " + words, DOCUMENT.contains(flat(words)) ? 1 : 0, 1);
    }

    static void due(String call, long got, long want) {
        CHECKS.due(topic + ": " + call, got, want);
    }

    static void end(String name) {
        System.out.println(name + ": " + sentences + " sentences");
        CHECKS.end(name);
    }

    // ---- texts ----

    static String in(String statements) {
        return "method{" + statements + "}";
    }

    /** The text has this fault, however it is compiled, and there is no program then. */
    static void faulty(String text, int number, int place) {
        for (int shared = 0; shared < 2; shared++) {
            WaysAtlas x = new WaysAtlas();
            due("compile of " + text, Checks.compile(x, text, shared == 1), -100 - place);
            due("fault of " + text, x.fault(), number);
            due("no program of " + text, x.count(0), BAD);
        }
    }

    static void fine(String text, int statements) {
        for (int shared = 0; shared < 2; shared++) {
            WaysAtlas x = new WaysAtlas();
            due("compile of " + text, Checks.compile(x, text, shared == 1), statements);
            due("fault of " + text, x.fault(), 0);
            due("statements of " + text, x.count(0), statements);
        }
    }

    /** Where the sign @ stands in the statements there is the fault. */
    static void faultyIn(String statements, int number) {
        faulty(in(statements.replace("@", "")), number, 7 + statements.indexOf('@'));
    }

    static void fineIn(String statements, int count) {
        fine(in(statements), count);
    }

    // ---- runs ----

    static boolean tree(int which) {
        return which == 1;
    }

    /** New objects with the program, one for each way to compile and to run it. */
    static void each(String text, Look look) {
        for (int i = 0; i < 4; i++) {
            look.at(Checks.made(text, i < 2), i % 2);
        }
    }

    /** The entries have four numbers each: statement, part, time, kind. */
    static void plan(WaysAtlas x, int... entries) {
        for (int i = 0; i < entries.length; i += 4) {
            due("plan", x.plan(entries[i], entries[i + 1], entries[i + 2], entries[i + 3]), x.count(4));
        }
        due("entries", x.count(4), entries.length / 4);
    }

    /** What the latest run has given: what was returned, THROWS - the kind, or IS_SPENT. */
    static int outcome(WaysAtlas x, int which) {
        switch (x.ran(which, 0)) {
            case RETURNED: return x.ran(which, 1);
            case THROWN: return THROWS - x.failure(which, x.ran(which, 2), 0);
            default: return IS_SPENT;
        }
    }

    /** What method 0 of the program gives of these numbers. */
    static void gives(String text, int a, int b, int want) {
        each(text, (x, which) -> {
            x.run(tree(which), 0, a, b, 400);
            due("run of " + text + " with " + a + " and " + b, outcome(x, which), want);
            due("same of " + text, x.same(0, a, b), 1);
        });
    }

    static void gives(String statements, int want) {
        gives(in(statements), 7, -3, want);
    }

    static void tape(WaysAtlas x, int which, int... marks) {
        due("numbers on the tape", x.ran(which, 3), marks.length);
        for (int i = 0; i < marks.length; i++) {
            due("mark " + i, x.mark(which, i), marks[i]);
        }
        due("no more marks", x.mark(which, marks.length), NONE);
    }

    static void closings(WaysAtlas x, int which, int... resources) {
        due("closings", x.ran(which, 6), resources.length);
        for (int i = 0; i < resources.length; i++) {
            due("closed " + i, x.closed(which, i), resources[i]);
        }
        due("no more closings", x.closed(which, resources.length), NONE);
    }
}
