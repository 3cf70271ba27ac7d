import java.util.ArrayList;
import java.util.List;
import java.util.Random;

/** Compares the class with the oracle on random programs, plans and runs, and on texts that have a fault. */
public final class RandomTest {
    private static final Checks CHECKS = new Checks();
    private static WaysAtlas used;
    private static int ended;
    private static final int[] ENDS = new int[3];
    private static final int[] FAULTS = new int[4];

    public static void main(String[] args) {
        int rounds = args.length > 0 ? Integer.parseInt(args[0]) : 4000;
        int seed = args.length > 1 ? Integer.parseInt(args[1]) : 1;
        for (int i = 0; i < rounds && CHECKS.wrong() == 0; i++) {
            Random random = new Random(1000003L * seed + i);
            program(random);
            for (int k = 0; k < 4; k++) {
                faulty(random);
            }
        }
        System.out.println("runs " + ended + ": returned " + ENDS[0] + ", thrown " + ENDS[1] + ", spent " + ENDS[2]
                + "; faults: none " + FAULTS[0] + ", 1: " + FAULTS[1] + ", 2: " + FAULTS[2] + ", 3: " + FAULTS[3]);
        CHECKS.end("RandomTest");
    }

    private static void faulty(Random random) {
        Programs programs = new Programs(random);
        String text = random.nextInt(3) == 0 ? programs.broken() : programs.almost();
        Oracle oracle = new Oracle(text);
        WaysAtlas x = used;
        int want = oracle.fault == 0 ? oracle.statements.size() : -100 - oracle.faultPlace;
        CHECKS.due("compile of " + text, Checks.compile(x, text, random.nextBoolean()), want);
        CHECKS.due("fault of " + text, x.fault(), oracle.fault);
        FAULTS[oracle.fault]++;
    }

    private static void program(Random random) {
        String text = new Programs(random).next();
        Oracle oracle = new Oracle(text);
        boolean shared = random.nextBoolean();
        // Now and then a new object; what an object has done before does not matter.
        if (used == null || random.nextInt(4) == 0) {
            used = new WaysAtlas();
        }
        WaysAtlas x = used;
        CHECKS.due("compile of " + text, Checks.compile(x, text, shared), oracle.statements.size());
        CHECKS.due("fault of " + text, x.fault(), 0);
        if (CHECKS.wrong() > 0) {
            return;
        }
        int[] counts = {oracle.statements.size(), oracle.methods.size(), oracle.kinds.size(), oracle.catches.size()};
        for (int what = 0; what < 4; what++) {
            CHECKS.due("count(" + what + ") of " + text, x.count(what), counts[what]);
        }
        for (int i = 0; i < oracle.catches.size(); i++) {
            for (int what = 0; what < 3; what++) {
                CHECKS.due("handler(" + i + ", " + what + ") of " + text, x.handler(i, what), oracle.handler(i, what));
            }
        }
        List<int[]> plan = new ArrayList<>();
        for (int i = 0; i < 4; i++) {
            run(random, x, oracle, plan, text + " shared " + shared);
            plan(random, x, oracle, plan);
        }
    }

    /** Adds some entries, for parts that there are and for others. */
    private static void plan(Random random, WaysAtlas x, Oracle oracle, List<int[]> plan) {
        if (random.nextInt(3) == 0) {
            CHECKS.due("clear()", x.clear(), plan.size());
            plan.clear();
        }
        int n = random.nextInt(40);
        for (int i = 0; i < n; i++) {
            int statement = random.nextInt(oracle.statements.size() + 1);
            int part = random.nextInt(7);
            int time = 1 + random.nextInt(random.nextInt(3) == 0 ? 4 : 1);
            int kind = random.nextInt(oracle.kinds.size() + 1);
            boolean valid = statement < oracle.statements.size() && kind < oracle.kinds.size()
                    && oracle.statements.get(statement).hasPart(part);
            int want = !valid ? WaysAtlas.BAD : plan.size() == 30 ? WaysAtlas.FULL : plan.size() + 1;
            CHECKS.due("plan(" + statement + ", " + part + ", " + time + ", " + kind + ")",
                    x.plan(statement, part, time, kind), want);
            if (want > 0) {
                plan.add(new int[] {statement, part, time, kind});
            }
        }
        CHECKS.due("count(4)", x.count(4), plan.size());
    }

    private static void run(Random random, WaysAtlas x, Oracle oracle, List<int[]> plan, String text) {
        int method = random.nextInt(oracle.methods.size());
        int a = random.nextInt(8) - 2;
        int b = random.nextInt(10) == 0 ? random.nextInt() : random.nextInt(5);
        int steps = random.nextInt(3) == 0 ? random.nextInt(60) : 400;
        StringBuilder where = new StringBuilder(text + " method " + method + "(" + a + ", " + b + ") steps " + steps
                + " plan");
        for (int[] entry : plan) {
            where.append(" ").append(entry[0]).append(",").append(entry[1]).append(",").append(entry[2]).append(",")
                    .append(entry[3]);
        }
        where.append(": ");
        Oracle.Run run = oracle.new Run(method, a, b, plan, steps);
        ended++;
        ENDS[run.ended]++;
        for (int which = 0; which < 2; which++) {
            CHECKS.due(where + "run " + which, x.run(which == 1, method, a, b, steps), run.ended);
            compare(x, which, oracle, run, where.toString());
        }
        CHECKS.due(where + "same", x.same(method, a, b), 1);
        if (random.nextInt(3) == 0) {
            CHECKS.due(where + "ways", x.ways(method, a, b), oracle.ways(method, a, b));
            compare(x, random.nextInt(2), oracle, run, where + "after ways ");
        }
    }

    private static void compare(WaysAtlas x, int which, Oracle oracle, Oracle.Run run, String where) {
        for (int what = 0; what <= 9; what++) {
            CHECKS.due(where + "ran(" + which + ", " + what + ")", x.ran(which, what), run.property(what));
        }
        for (int i = 0; i <= run.tape.size(); i++) {
            CHECKS.due(where + "mark(" + which + ", " + i + ")", x.mark(which, i),
                    i < run.tape.size() ? run.tape.get(i) : WaysAtlas.NONE);
        }
        for (int i = 0; i <= run.closings.size(); i++) {
            CHECKS.due(where + "closed(" + which + ", " + i + ")", x.closed(which, i),
                    i < run.closings.size() ? run.closings.get(i) : WaysAtlas.NONE);
        }
        for (int i = 0; i <= run.failures.size(); i++) {
            Oracle.Failure f = i < run.failures.size() ? run.failures.get(i) : null;
            for (int what = 0; what <= 5; what++) {
                CHECKS.due(where + "failure(" + which + ", " + i + ", " + what + ")", x.failure(which, i, what),
                        f == null ? WaysAtlas.NONE : f.property(what));
            }
            int depth = f == null ? 0 : f.trace.size();
            for (int k = -1; k <= depth; k++) {
                CHECKS.due(where + "trace(" + which + ", " + i + ", " + k + ")", x.trace(which, i, k),
                        k >= 0 && k < depth ? f.trace.get(k) : WaysAtlas.NONE);
            }
        }
        for (int s = 0; s <= oracle.statements.size(); s++) {
            boolean has = s < oracle.statements.size() && oracle.statements.get(s).hasFinally();
            CHECKS.due(where + "entered(" + which + ", " + s + ")", x.entered(which, s),
                    has ? run.entered.getOrDefault(s, 0) : WaysAtlas.BAD);
        }
    }
}
