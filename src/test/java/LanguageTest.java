import java.lang.reflect.Constructor;
import java.lang.reflect.Field;
import java.lang.reflect.Method;
import java.lang.reflect.Modifier;
import java.nio.file.Files;
import java.nio.file.Path;
import java.util.ArrayList;
import java.util.HashSet;
import java.util.List;
import java.util.Map;
import java.util.Set;
import java.util.TreeSet;
import java.util.regex.Matcher;
import java.util.regex.Pattern;

/** What can be seen of LANGUAGE.md in the source and in the classes: the public face and the part of Java. */
public final class LanguageTest {
    private static final Checks CHECKS = new Checks();
    private static final Set<String> FACE = Set.of("int say(long,int)", "int compile(boolean)", "int fault()",
            "int count(int)", "int plan(int,int,int,int)", "int clear()", "int run(boolean,int,int,int,int)",
            "int ran(int,int)", "int mark(int,int)", "int failure(int,int,int)", "int trace(int,int,int)",
            "int closed(int,int)", "int entered(int,int)", "int handler(int,int)", "int ways(int,int,int)",
            "int same(int,int,int)");
    private static final Map<String, Integer> CONSTANTS = Map.of("BAD", -1, "FULL", -2, "NONE", -9, "RETURNED", 0,
            "THROWN", 1, "SPENT", 2);
    private static final Set<String> TYPES = Set.of("int", "long", "boolean", "char", "class java.lang.String");

    public static void main(String[] args) throws Exception {
        face();
        classes();
        source(Files.readString(Path.of("src/main/java/WaysAtlas.java")));
        CHECKS.end("LanguageTest");
    }

    private static void holds(String rule, boolean holds) {
        CHECKS.due(rule, holds ? 1 : 0, 1);
    }

    private static String signature(Method m) {
        StringBuilder b = new StringBuilder(m.getReturnType() + " " + m.getName() + "(");
        for (Class<?> c : m.getParameterTypes()) {
            b.append(b.charAt(b.length() - 1) == '(' ? "" : ",").append(c);
        }
        return b.append(")").toString();
    }

    private static void face() throws Exception {
        Class<?> c = WaysAtlas.class;
        holds("the class is public and final", c.getModifiers() == (Modifier.PUBLIC | Modifier.FINAL));
        Set<String> seen = new TreeSet<>();
        for (Method m : c.getDeclaredMethods()) {
            if (Modifier.isPublic(m.getModifiers())) {
                seen.add(signature(m));
                holds(m + " is public and no more", m.getModifiers() == Modifier.PUBLIC);
            } else {
                holds(m + " is private", Modifier.isPrivate(m.getModifiers()) || m.isSynthetic());
            }
        }
        holds("the face is " + seen, seen.equals(new TreeSet<>(FACE)));
        int constants = 0;
        for (Field f : c.getDeclaredFields()) {
            if (Modifier.isPrivate(f.getModifiers())) {
                continue;
            }
            constants++;
            holds(f + " is a constant", CONSTANTS.containsKey(f.getName())
                    && f.getModifiers() == (Modifier.PUBLIC | Modifier.STATIC | Modifier.FINAL));
            CHECKS.due(f.getName(), f.getInt(null), CONSTANTS.getOrDefault(f.getName(), 99));
        }
        CHECKS.due("constants", constants, CONSTANTS.size());
        Constructor<?>[] made = c.getDeclaredConstructors();
        holds("one public constructor", made.length == 1 && made[0].getModifiers() == Modifier.PUBLIC
                && made[0].getParameterCount() == 0);
    }

    private static void classes() {
        List<Class<?>> all = new ArrayList<>(List.of(WaysAtlas.class.getDeclaredClasses()));
        holds("at most 12 classes", all.size() + 1 <= 12);
        for (Class<?> c : all) {
            int m = c.getModifiers();
            holds(c + " is static and not public", Modifier.isStatic(m) && !Modifier.isPublic(m)
                    && !Modifier.isProtected(m));
        }
        all.add(WaysAtlas.class);
        Set<String> names = new HashSet<>();
        for (String s : FACE) {
            names.add(s.substring(4, s.indexOf('(')));
        }
        for (Class<?> c : all) {
            int fields = 0;
            for (Field f : c.getDeclaredFields()) {
                if (Modifier.isStatic(f.getModifiers())) {
                    holds(f + " is a final constant", Modifier.isFinal(f.getModifiers())
                            && TYPES.contains(f.getType().toString()));
                } else {
                    fields++;
                }
            }
            holds(c + " has at most 20 fields", fields <= 20);
            for (Method m : c.getDeclaredMethods()) {
                holds(m + " has at most 7 parameters", m.getParameterCount() <= 7);
                holds(m + " bears no public name", Modifier.isPublic(m.getModifiers()) || !names.contains(m.getName()));
            }
        }
    }

    private static void source(String text) {
        holds("signs 10 and 32 to 126 only", text.matches("(?s)[\n -~]*"));
        String[] all = text.split("\n");
        // Without comments, texts and single signs.
        String code = text.replaceAll("(?s)/\\*.*?\\*/", "").replaceAll("\"[^\"\n]*\"", "TEXT")
                .replaceAll("//[^\n]*", "").replaceAll("'[^\n]'", "SIGN");
        Matcher words = Pattern.compile("\\b(throw|throws|try|catch|finally|synchronized|assert|import|package|native|"
                + "volatile|transient|instanceof|System|Thread|Object|equals|hashCode|toString|protected|interface|"
                + "abstract|extends|implements|double|float|var|yield|goto|strictfp)\\b").matcher(code);
        while (words.find()) {
            holds("no " + words.group(), false);
        }
        holds("no lambda and no reference of a method", !code.contains("->") && !code.contains("::"));
        holds("no annotation", !code.contains("@"));
        holds("no texts joined by +", !code.matches("(?s).*(TEXT\\s*\\+|\\+\\s*TEXT).*"));
        holds("no cast but to numbers", !code.matches("(?s).*[=(,]\\s*\\([A-Z]\\w*\\)\\s*\\w.*"));
        Matcher loops = Pattern.compile("\\b(while|do)\\b[^\n]*").matcher(code);
        while (loops.find()) {
            holds("an end in the line of " + loops.group(), loops.group().contains("end < text.rows"));
        }
        Matcher made = Pattern.compile("\\bnew (\\w+)").matcher(code);
        while (made.find()) {
            holds("made: " + made.group(1), Set.of("Table", "Scanner", "Reader", "Coder", "World", "Walker", "Machine",
                    "RunRecord", "Program", "int").contains(made.group(1)));
        }
        methods(all);
    }

    /** A method begins with a line that ends with ") {", four spaces further in than its class. */
    private static void methods(String[] lines) {
        for (int i = 0; i < lines.length; i++) {
            Matcher m = Pattern.compile("( {4}| {8})(?! )[\\w ]+\\(.*\\) \\{").matcher(lines[i]);
            if (m.matches()) {
                int end = i;
                while (!lines[end].equals(m.group(1) + "}")) {
                    end++;
                }
                holds(lines[i].trim() + " has at most 60 lines", end - i + 1 <= 60);
            }
        }
    }
}
