import java.nio.charset.StandardCharsets;

/** What the tests share: counting wrong answers and handing a text to an object. */
final class Checks {
    private int wrong = 0;
    private int checked = 0;

    void due(String call, long got, long want) {
        checked++;
        if (got != want) {
            wrong++;
            if (wrong <= 50) {
                System.out.println(call + " answered " + got + ", due is " + want);
            }
        }
    }

    int wrong() {
        return wrong;
    }

    /** Ends the program, with exit code 1 if an answer was wrong. */
    void end(String name) {
        System.out.println(name + ": " + checked + " answers, " + wrong + " wrong");
        if (wrong > 0 || checked == 0) {
            System.exit(1);
        }
    }

    /** Says the text, 8 bytes a call as far as possible; answers the last answer. */
    static int say(WaysAtlas x, String text) {
        byte[] bytes = text.getBytes(StandardCharsets.ISO_8859_1);
        int length = 0;
        for (int i = 0; i < bytes.length; i += 8) {
            int n = Math.min(8, bytes.length - i);
            long value = 0;
            for (int k = 0; k < n; k++) {
                value = value << 8 | bytes[i + k] & 255;
            }
            length = x.say(value, n);
        }
        return length;
    }

    static int compile(WaysAtlas x, String text, boolean shared) {
        say(x, text);
        return x.compile(shared);
    }

    /** A new object with this program. */
    static WaysAtlas made(String text, boolean shared) {
        WaysAtlas x = new WaysAtlas();
        int statements = compile(x, text, shared);
        if (statements < 0) {
            throw new IllegalStateException("no program: " + text + " (" + statements + ", " + x.fault() + ")");
        }
        return x;
    }
}
