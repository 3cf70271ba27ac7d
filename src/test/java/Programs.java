import java.util.Random;
import java.util.regex.Matcher;
import java.util.regex.Pattern;

/** Random programs of the language, and texts that are almost programs. */
final class Programs {
    private static final Pattern TOKEN = Pattern.compile("[a-z]+(?![0-9])|[kmvr][0-9]+|[0-9]+|[^a-z0-9]");

    private final Random random;
    private final StringBuilder text = new StringBuilder();
    private int budget;
    private int statements;
    private int methods;
    private int kinds;
    private int loops;
    private int catching;

    Programs(Random random) {
        this.random = random;
    }

    String next() {
        for (int tries = 0; tries < 100; tries++) {
            text.setLength(0);
            write();
            if (text.length() <= 1000) {
                return text.toString();
            }
        }
        return "method{}";
    }

    /** A program in which some tokens are changed for others of their sort, so that the grammar mostly holds. */
    String almost() {
        StringBuilder b = new StringBuilder();
        Matcher m = TOKEN.matcher(next());
        int rare = 2 + random.nextInt(40);
        while (m.find()) {
            String token = m.group();
            b.append(random.nextInt(rare) == 0 ? changed(token) : token);
        }
        return b.length() > 1000 ? b.substring(0, 1000) : b.toString();
    }

    private String changed(String token) {
        char first = token.charAt(0);
        if (token.matches("[kmvr][0-9]+")) {
            int most = random.nextInt(5) == 0 ? 120 : first == 'k' ? 17 : first == 'm' ? 9 : first == 'v' ? 7 : 4;
            return first + "" + random.nextInt(most);
        }
        switch (first) {
            case ';':
                String[] more = {"again;", "wrap k0;", "leave 1;", "next 2;", "guard{}finally{}", "v0=1;", "call m1(0,0);",
                    "loop 1{loop 1{loop 1{}}}", "v1=1;".repeat(random.nextInt(70)), "with 0{}", "with 3{}",
                    "v2=" + "(".repeat(5) + "1" + ")".repeat(5) + ";", "v3=" + "-".repeat(7 + random.nextInt(3)) + "1;"};
                return ";" + more[random.nextInt(more.length)];
            case '}': return random.nextInt(9) == 0 ? "}}" : random.nextBoolean() ? "}method{" : token;
            case '-': return "--";
            case '(': return "((";
            default: break;
        }
        return token.matches("[0-9]+") ? "" + random.nextInt(5) : token;
    }

    /** A program in which a few bytes are changed. */
    String broken() {
        StringBuilder b = new StringBuilder(next());
        int changes = 1 + random.nextInt(2);
        for (int i = 0; i < changes && b.length() > 0; i++) {
            int at = random.nextInt(b.length());
            String piece = piece();
            switch (random.nextInt(5)) {
                case 0: b.deleteCharAt(at); break;
                case 1: b.insert(at, piece); break;
                case 2: b.replace(at, at + 1, piece); break;
                case 3: b.setLength(at); break;
                default: b.delete(at, Math.min(b.length(), at + 1 + random.nextInt(8))); break;
            }
        }
        return b.length() > 1000 ? b.substring(0, 1000) : b.toString();
    }

    private String piece() {
        String[] pieces = {"{", "}", "(", ")", "[", "]", ";", ",", "=", "<", ">", "+", "-", "*", "/", "%", " ", "\n",
            "k9", "k16", "m7", "m8", "v5", "v6", "r2", "r3", "0", "12345", "k123", "x", "else ", "again;", "wrap k1;",
            "leave 0;", "next 3;", "finally{}", "catch k0{}", "size r0", "-", "7", "kind ", "method{", "\t", "\u00e4",
            "mark 1;", "none", "row ", "v1=1;", "guard{}", "with 4{}", "with 1{}", "r1=r2;", "throw k20;"};
        return pieces[random.nextInt(pieces.length)];
    }

    private void write() {
        statements = 0;
        budget = 100 + random.nextInt(850);
        if (random.nextInt(4) == 0) {
            space(1);
        }
        kinds = 7;
        int declared = random.nextInt(4) == 0 ? random.nextInt(10) : random.nextInt(3);
        for (int i = 0; i < declared; i++) {
            text.append("kind under ").append(name('k', random.nextInt(kinds))).append(';');
            kinds++;
        }
        methods = 1 + random.nextInt(random.nextInt(3) == 0 ? 8 : 3);
        for (int i = 0; i < methods; i++) {
            int end = budget * (i + 1) / methods;
            text.append("method");
            space(0);
            text.append('{');
            loops = 0;
            catching = 0;
            block(0, end);
            text.append('}');
            space(0);
        }
    }

    private void space(int least) {
        int n = Math.max(least, random.nextInt(12) == 0 ? 1 + random.nextInt(2) : 0);
        for (int i = 0; i < n; i++) {
            text.append(random.nextInt(3) == 0 ? '\n' : ' ');
        }
    }

    private String name(char letter, int n) {
        return letter + (n < 10 && random.nextInt(15) == 0 ? "0" : "") + n;
    }

    private String variable() {
        return name('v', random.nextInt(random.nextInt(3) == 0 ? 6 : 3));
    }

    private String rowName() {
        return name('r', random.nextInt(3));
    }

    private String kind() {
        return name('k', random.nextInt(3) == 0 ? random.nextInt(2) : random.nextInt(kinds));
    }

    /** The statements of a block, while there is room up to the end. */
    private void block(int depth, int end) {
        int most = 1 + random.nextInt(depth == 0 ? 8 : 3);
        if (depth > 0 && random.nextInt(12) == 0) {
            return;
        }
        for (int i = 0; i < most && statements < 80 && text.length() < end - 20; i++) {
            statement(depth, end);
            space(0);
        }
    }

    private void braces(int depth, int end) {
        space(0);
        text.append('{');
        block(depth + 1, end);
        text.append('}');
    }

    private void statement(int depth, int end) {
        statements++;
        int room = end - text.length();
        if (depth < 6 && random.nextInt(100) < 60 && room > 40) {
            nested(depth, text.length() + room * 3 / 4);
        } else {
            plain();
        }
    }

    private void nested(int depth, int end) {
        switch (random.nextInt(7)) {
            case 0:
                text.append("if ");
                comparison();
                braces(depth, end);
                if (random.nextInt(2) == 0) {
                    text.append("else");
                    braces(depth, end);
                }
                break;
            case 1:
                text.append("loop ");
                if (random.nextInt(5) > 0) {
                    text.append(random.nextInt(5));
                } else {
                    sum(0);
                }
                loops++;
                braces(depth, end);
                loops--;
                break;
            default:
                boolean opens = random.nextInt(5) < 2;
                text.append(opens ? "with " + (1 + random.nextInt(3)) : "guard");
                braces(depth, end);
                handlers(depth, end + 30, opens);
                break;
        }
    }

    private void handlers(int depth, int end, boolean opens) {
        int n = random.nextInt(3);
        boolean last = random.nextInt(3) > 0 || n == 0 && !opens;
        for (int i = 0; i < n; i++) {
            text.append("catch ").append(kind());
            catching++;
            braces(depth, end);
            catching--;
        }
        if (last) {
            text.append("finally");
            braces(depth, end + 20);
        }
    }

    private void plain() {
        int choice = random.nextInt(28);
        if (choice < 6) {
            text.append("mark ").append(random.nextInt(30));
        } else if (choice < 9) {
            text.append(variable()).append('=');
            sum(0);
        } else if (choice < 12) {
            text.append(random.nextInt(3) > 0 ? variable() + "=" : "").append("call ");
            text.append(name('m', random.nextInt(methods))).append('(');
            sum(0);
            text.append(',');
            sum(0);
            text.append(')');
        } else if (choice < 15) {
            text.append("return ");
            sum(0);
        } else if (choice < 18) {
            text.append("throw ").append(kind());
        } else if (choice < 21 && loops > 0) {
            text.append(random.nextBoolean() ? "leave " : "next ").append(1 + random.nextInt(loops));
        } else if (choice < 24 && catching > 0) {
            text.append(random.nextBoolean() ? "again" : "wrap " + kind());
        } else {
            row();
        }
        text.append(';');
    }

    private void row() {
        text.append(rowName());
        switch (random.nextInt(5)) {
            case 0: text.append("=none"); break;
            case 1: text.append('=').append(rowName()); break;
            case 2:
                text.append("=row ");
                if (random.nextInt(4) == 0) {
                    sum(0);
                } else {
                    text.append(random.nextInt(9));
                }
                break;
            default:
                text.append('[');
                sum(0);
                text.append("]=");
                sum(0);
                break;
        }
    }

    private void comparison() {
        sum(0);
        text.append("=<>".charAt(random.nextInt(3)));
        sum(0);
    }

    private void sum(int nested) {
        int n = random.nextInt(5) == 0 ? 3 : random.nextInt(3) == 0 ? 2 : 1;
        for (int i = 0; i < n; i++) {
            if (i > 0) {
                text.append("+-*/%".charAt(random.nextInt(5)));
            }
            factor(nested);
        }
    }

    private void factor(int nested) {
        int choice = random.nextInt(nested < 8 ? 14 : 8);
        if (choice < 4) {
            text.append(random.nextInt(20) == 0 ? random.nextInt(10000) : random.nextInt(5));
        } else if (choice < 9) {
            text.append(variable());
        } else if (choice < 10) {
            text.append('-');
            factor(nested + 1);
        } else if (choice < 12) {
            text.append('(');
            sum(nested + 1);
            text.append(')');
        } else if (choice < 13) {
            text.append(rowName()).append('[');
            sum(nested + 1);
            text.append(']');
        } else {
            text.append("size ").append(rowName());
        }
    }
}
