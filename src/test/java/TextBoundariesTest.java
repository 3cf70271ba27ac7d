/** Each sentence of the document on texts, tokens, the grammar and faults that names a boundary case. */
public final class TextBoundariesTest extends Sentences {
    private static final String WORDS = "kind under method mark call row none return if else loop leave next throw wrap again "
            + "guard with catch finally size";
    /** Statements of all forms; they may stand in a loop and in the block of a catch. */
    private static final String[] FORMS = {"mark 1;", "v0=call m0(0,0);", "v0=1;", "r0=row 1;", "r0=none;", "r0=r1;",
        "r0[0]=1;", "call m0(0,0);", "return 1;", "if 1=1{}", "if 1<1{}else{}", "loop 1{}", "leave 1;", "next 1;",
        "throw k1;", "wrap k1;", "again;", "guard{}catch k0{}", "guard{}finally{}", "with 1{}", "with 3{}catch k1{}finally{}"};
    /** A program with each word and each sign. */
    private static final String WHOLE = "kind under k1 ; kind under k7 ; method { mark 1 ; v0 = call m1 ( 1 , 2 ) ; "
            + "v1 = - 1 + 2 * ( v0 - 3 ) / 4 % r0 [ 5 ] - size r0 ; r0 = row 3 ; r0 = none ; r1 = r0 ; r1 [ 0 ] = 1 ; "
            + "call m0 ( v0 , v1 ) ; return 7 ; if 1 = 2 { } else { mark 2 ; } if 1 < 2 { } if 1 > 2 { } "
            + "loop 2 { leave 1 ; next 1 ; } throw k1 ; guard { } catch k1 { wrap k2 ; again ; } catch k0 { } finally { } "
            + "guard { } finally { } with 2 { } with 3 { } catch k3 { } finally { mark 3 ; } } method { }";

    public static void main(String[] args) {
        bytes();
        tokens();
        blanks();
        words();
        names();
        numbers();
        signs();
        digits();
        repetitions();
        program();
        guards();
        kinds();
        methods();
        variablesAndRows();
        statements();
        blocks();
        levels();
        firstFault();
        faultOne();
        faultTwo();
        faultThree();
        end("TextBoundariesTest");
    }

    private static void bytes() {
        sentence("The text has at most 1000 bytes; places in it are counted from 0.");
        WaysAtlas x = new WaysAtlas();
        due("1000 bytes", Checks.say(x, "method{" + " ".repeat(992) + "}"), 1000);
        due("one more", x.say(' ', 1), FULL);
        due("the 1000 bytes are a program", x.compile(true), 0);
        faulty("?", 1, 0);
        faulty(" ?", 1, 1);
        faulty(" ".repeat(999) + "?", 1, 999);
        faulty(" ".repeat(1000), 1, 1000);
        faulty("method{" + "v0=1;".repeat(80) + " ".repeat(592) + "?", 1, 999);
    }

    private static void tokens() {
        sentence("It is a sequence of tokens, each of which is as long as possible;");
        fineIn("v0=v01;", 1);
        faultyIn("v0=@v12;", 2);
        faultyIn("@markmark 1;", 1);
        faultyIn("@guardwith 1{}", 1);
        faultyIn("if 1=1{}@elseif 1=1{}", 1);
        gives("return 12;", 12);
        gives("return 1234;", 1234);
        gives("return v05+v00;", 7);
    }

    private static void blanks() {
        sentence("blanks (32) and line feeds (10) may stand between tokens, and are necessary only where two tokens would run "
                + "together.");
        int all = Checks.made(WHOLE, true).count(0);
        fine(WHOLE, all);
        fine(WHOLE.replace(' ', '\n'), all);
        fine("\n " + WHOLE.replace(" ; ", " \n; ") + " \n", all);
        // Only where a word or a number follows a word: a name does not run together with it.
        fine(WHOLE.replaceAll("([a-z]) (?=[a-z]+(?![a-z0-9])|[0-9])", "$1\n").replace(" ", ""), all);
        fineIn("throwk1;", 1);
        fineIn("returnv0;", 1);
        fineIn("v0=sizer0;", 1);
        fine("kind underk0;method{guard{}catchk7{}v0=callm0(0,0);r0=rowv0;ifv0=v0{}loopv0{}}", 5);
        // They do not stand within a token.
        faultyIn("@ma rk 1;", 1);
        faultyIn("@v 0=1;", 1);
        faultyIn("@v\n0=1;", 1);
        faultyIn("mark 1 @2;", 1);
        faultyIn("mark 1\n@2;", 1);
        faultyIn("v0 @1=1;", 1);
        // Where they are necessary.
        faultyIn("@mark1;", 1);
        faultyIn("@return1;", 1);
        faultyIn("@loop1{}", 1);
        faultyIn("@with1{}", 1);
        faultyIn("@if1=1{}", 1);
        faultyIn("@returnsize r0;", 1);
        faultyIn("r0=@rowsize r0;", 1);
        faulty("kindunder k0;method{}", 1, 0);
        for (int sign = 0; sign < 256; sign++) {
            String text = "method{" + (char) sign + "}";
            if (sign == 32 || sign == 10) {
                fine(text, 0);
                fine((char) sign + "method" + (char) sign + "{}" + (char) sign, 0);
            } else if (sign != '}') {
                faulty(text, 1, 7);
            }
        }
    }

    private static void words() {
        sentence("words: letters a to z that no digit follows directly. Only the words that the grammar shows are tokens;");
        for (String word : WORDS.split(" ")) {
            int at = (WHOLE + " ").indexOf(word + " ");
            String before = WHOLE.substring(0, at);
            String after = WHOLE.substring(at + word.length());
            faulty(before + word + "s" + after, 1, at);
            faulty(before + "a" + word + after, 1, at);
            faulty(before + word.substring(1) + after, 1, at);
            faulty(before + word.substring(0, word.length() - 1) + after, 1, at);
            faulty(before + word + "0" + after, 1, at);
            faulty(before + word.toUpperCase() + after, 1, at);
            faulty(before + word + word + after, 1, at);
        }
        // Next to a and to z: 96, 123, and the capital letters.
        faultyIn("@`mark 1;", 1);
        faultyIn("mark@`1;", 1);
        faultyIn("mark@{1;", 1);
        faultyIn("@Mark 1;", 1);
        faultyIn("mark@K 1;", 1);
        for (String word : "a z k m v r try while true machine zero deep kin marks".split(" ")) {
            faultyIn("@" + word + " 1;", 1);
            faultyIn("v0=@" + word + ";", 1);
        }
    }

    private static void names() {
        sentence("names: one of the letters k, m, v and r, directly followed by 1 or 2 digits (k7 is kind 7, m0 method 0, v1 "
                + "variable 1, r2 row 2; leading zeros are allowed);");
        for (char c = 'a'; c <= 'z'; c++) {
            place("throw ", c, "1;", c == 'k');
            place("call ", c, "0(0,0);", c == 'm');
            place("r1=", c, "1;", c == 'r');
            place("v1=size ", c, "1;", c == 'r');
            if (c != 'r') {
                place("v1=", c, "1;", c == 'v');
            }
        }
        faultyIn("v0=@V1;", 1);
        String[][] digits = {{"", "faulty"}, {"0", ""}, {"00", ""}, {"01", ""}, {"1", ""}, {"000", "faulty"}, {"001", "faulty"},
            {"0000000000", "faulty"}};
        for (String[] d : digits) {
            boolean fits = d[1].isEmpty();
            name("throw ", "k" + d[0], ";", fits);
            name("v1=", "v" + d[0], ";", fits);
            name("r1=", "r" + d[0], ";", fits);
            name("", "v" + d[0], "=1;", fits);
            if (!d[0].endsWith("1")) {
                name("call ", "m" + d[0], "(0,0);", fits);
            }
        }
        faultyIn("throw @k;", 1);
        WaysAtlas x = Checks.made("kind under k0;method{guard{}catch k7{}catch k07{}v1=call m01(0,0);r02[0]=v05;}method{}", true);
        due("k7 is kind 7", x.handler(0, 1), 7);
        due("k07 is kind 7", x.handler(1, 1), 7);
        gives("v1=5;return v01;", 5);
        gives("v01=5;return v1;", 5);
        gives("r2=row 4;return size r02;", 4);
        gives("r2=row 4;return size r1;", THROWS - 4);
        gives("method{v2=call m01(3,0);return v2;}method{return v00+1;}", 0, 0, 4);
    }

    private static void place(String before, char letter, String after, boolean fits) {
        name(before, "" + letter, after, fits);
    }

    private static void name(String before, String name, String after, boolean fits) {
        if (fits) {
            fineIn(before + name + after, 1);
        } else {
            faultyIn(before + "@" + name + after, 1);
        }
    }

    private static void numbers() {
        sentence("numbers: 1 to 4 digits (leading zeros are allowed);");
        String[] fit = {"0", "9", "10", "00", "07", "099", "999", "1000", "9999", "0000", "0001", "0099"};
        for (String n : fit) {
            each(in("mark " + n + ";return " + n + ";"), (x, which) -> {
                x.run(tree(which), 0, 0, 0, 400);
                tape(x, which, Integer.parseInt(n));
                due("returned", x.ran(which, 1), Integer.parseInt(n));
            });
        }
        String[] longer = {"00000", "00001", "10000", "99999", "123456", "1".repeat(400)};
        for (String n : longer) {
            faultyIn("mark @" + n + ";", 1);
            faultyIn("return 1+@" + n + ";", 1);
            faultyIn("with @" + n + "{}", 1);
            faultyIn("loop 1{leave @" + n + ";}", 1);
        }
        fineIn("with 0001{}with 003{}loop 1{leave 0001;next 01;}", 5);
    }

    private static void signs() {
        sentence("the signs + - * / % ( ) [ ] { } = < > , ;");
        fineIn("v0=(1+2-3*4/5%6);r0[1]=2;if 1<2{}if 2>1{}if 1=1{}call m0(1,2);", 6);
        for (int sign = 0; sign < 256; sign++) {
            char c = (char) sign;
            String text = "v0=1" + c + "1;";
            if ("+-*/%0123456789".indexOf(c) >= 0) {
                fineIn(text, 1);
            } else if (c == ' ' || c == '\n' || c == ';') {
                faulty(in(text), 1, 12);
            } else {
                faulty(in(text), 1, 11);
            }
            if ("=<>".indexOf(c) >= 0) {
                fineIn("if 1" + c + "1{}", 1);
            } else if ("+-*/%0123456789".indexOf(c) >= 0) {
                faulty(in("if 1" + c + "1{}"), 1, 13);
            } else {
                faulty(in("if 1" + c + "1{}"), 1, c == ' ' || c == '\n' ? 12 : 11);
            }
        }
    }

    private static void digits() {
        sentence("All digits that stand together belong to one token; more digits than allowed are no token.");
        faultyIn("v0=@v123;", 1);
        faultyIn("v0=@v000;", 1);
        faultyIn("v0=@v1234567890;", 1);
        faultyIn("@v001=1;", 1);
        faultyIn("throw @k001;", 1);
        faultyIn("call @m000(0,0);", 1);
        faultyIn("r0=@r000;", 1);
        faultyIn("v0=@r000[0];", 1);
        faultyIn("v0=@12345;", 1);
        faultyIn("v0=@123456789;", 1);
        faultyIn("v0=1234 @5;", 1);
        // What is no token counts before a fault of number 2, if it stands before it, and the other way round.
        faultyIn("@v012=v6;", 1);
        faultyIn("@v12=v012;", 2);
    }

    private static void repetitions() {
        sentence("In the grammar { x } stands for any number of x, also none, [ x ] for x or nothing, and | for a choice:");
        fine("method{}", 0);
        fine("method{}method{}", 0);
        fine("kind under k0;method{}", 0);
        fineIn("mark 1;", 1);
        fineIn("mark 1;".repeat(80), 80);
        fineIn("if 1=1{}", 1);
        fineIn("if 1=1{}else{}", 1);
        fineIn("if 1=1{mark 1;}else{mark 1;mark 2;}", 4);
        faultyIn("if 1=1{}else{}@else{}", 1);
        fineIn("with 1{}", 1);
        fineIn("with 1{}finally{}", 1);
        fineIn("with 1{}" + "catch k0{}".repeat(90), 1);
        fineIn("with 1{}" + "catch k0{}".repeat(90) + "finally{}", 1);
        faultyIn("with 1{}finally{}@finally{}", 1);
        faultyIn("with 1{}finally{}@catch k0{}", 1);
        faultyIn("mark 1;@;", 1);
        for (String form : FORMS) {
            fineIn("loop 1{guard{}catch k0{" + form + form + "}}", 4);
        }
        gives("return 1" + "+1".repeat(400) + ";", 401);
        gives("return 1" + "*1".repeat(400) + ";", 1);
    }

    private static void program() {
        sentence("program = { \"kind\" \"under\" KIND \";\" } method { method }");
        faulty("", 1, 0);
        faulty("kind under k0;", 1, 14);
        faulty("kind under k0;kind under k0;", 1, 28);
        faulty("kind under k0;mark 1;", 1, 14);
        faulty("method{}kind under k0;", 1, 8);
        faulty("method{}mark 1;", 1, 8);
        faulty("method{}}", 1, 8);
        faulty("method{}@", 1, 8);
        faulty("{}", 1, 0);
        faulty("kind k0;method{}", 1, 5);
        faulty("kind under m0;method{}", 1, 11);
        faulty("kind under k0 method{}", 1, 14);
    }

    private static void guards() {
        sentence("| \"guard\" block catches (with at least one catch or finally)");
        faultyIn("guard{}@", 1);
        faultyIn("guard{}@;", 1);
        faultyIn("guard{}@mark 1;", 1);
        faultyIn("guard{}@guard{}finally{}", 1);
        faultyIn("guard{}@else{}", 1);
        faultyIn("guard{}@v6=1;", 1);
        faulty("method{guard{}", 1, 14);
        faulty("method{guard{} \n", 1, 16);
        fineIn("guard{}catch k0{}", 1);
        fineIn("guard{}finally{}", 1);
        fineIn("guard{}catch k0{}finally{}", 1);
        fineIn("guard{}catch k0{}catch k0{}mark 1;", 2);
        fineIn("with 1{}mark 1;", 2);
        faultyIn("guard{guard{}@}finally{}", 1);
        faultyIn("guard @1{}finally{}", 1);
    }

    private static void kinds() {
        sentence("Kind 0 is above all others; kind 1 (machine) is below it; kinds 2 (zero), 3 (index), 4 (null), 5 (size) and 6 "
                + "(deep) are below kind 1.");
        // 7 is below 0, 8 below 7, 9 below 2, 10 below 9.
        int[] above = {NONE, 0, 1, 1, 1, 1, 1, 0, 7, 2, 9};
        String declared = "kind under k0;kind under k7;kind under k2;kind under k9;";
        for (int thrown = 0; thrown < above.length; thrown++) {
            for (int caught = 0; caught < above.length; caught++) {
                boolean takes = false;
                for (int k = thrown; k != NONE; k = above[k]) {
                    takes |= k == caught;
                }
                String text = declared + in("guard{throw k" + thrown + ";}catch k" + caught + "{return 5;}");
                gives(text, 0, 0, takes ? 5 : THROWS - thrown);
                WaysAtlas x = Checks.made(declared + in("guard{}catch k" + caught + "{}catch k" + thrown + "{}"), true);
                due("dead", x.handler(1, 2), takes ? 1 : 0);
            }
        }
        gives("return 1/0;", THROWS - 2);
        gives("return r0[0];", THROWS - 4);
        gives("r0=row 1;return r0[1];", THROWS - 3);
        gives("r0=row 9;", THROWS - 5);
        gives("call m0(0,0);", THROWS - 6);

        sentence("The kinds that the text declares are numbered from 7 on, in their order; each is below the kind after \"under\".");
        gives("kind under k1;kind under k0;" + in("guard{throw k7;}catch k1{return 1;}"), 0, 0, 1);
        gives("kind under k1;kind under k0;" + in("guard{throw k8;}catch k1{return 1;}"), 0, 0, THROWS - 8);
        StringBuilder chain = new StringBuilder("kind under k6;");
        for (int k = 7; k < 15; k++) {
            chain.append("kind under k").append(k).append(';');
        }
        for (int k = 0; k < 16; k++) {
            boolean takes = k < 2 || k > 5;
            gives(chain + in("guard{throw k15;}catch k" + k + "{return 1;}"), 0, 0, takes ? 1 : THROWS - 15);
            gives(chain + in("guard{throw k" + k + ";}catch k15{return 1;}"), 0, 0, k == 15 ? 1 : THROWS - k);
        }

        sentence("There are at most 16 kinds in all.");
        String nine = "kind under k0;".repeat(9);
        fine(nine + "method{throw k15;}", 1);
        due("kinds", Checks.made(nine + "method{}", true).count(2), 16);
        due("kinds", Checks.made("method{}", true).count(2), 7);
        faulty(nine + "kind under k0;method{}", 2, 126);
        faulty(nine + "method{throw k16;}", 3, 139);
        gives(nine + "method{throw k15;}", 0, 0, THROWS - 15);
    }

    private static void methods() {
        sentence("Methods are numbered from 0, in their order; there are at most 8.");
        StringBuilder eight = new StringBuilder();
        for (int m = 0; m < 8; m++) {
            eight.append("method{return ").append(70 + m).append(";}");
        }
        fine(eight.toString(), 8);
        each(eight.toString(), (x, which) -> {
            due("methods", x.count(1), 8);
            for (int m = 0; m < 8; m++) {
                due("run", x.run(tree(which), m, 0, 0, 400), RETURNED);
                due("of method " + m, x.ran(which, 1), 70 + m);
            }
            due("no ninth", x.run(tree(which), 8, 0, 0, 400), BAD);
        });
        faulty(eight + "method{}", 2, eight.length());
        faulty(eight + "method", 2, eight.length());
        faulty("method{}".repeat(8) + "\nmethod{}", 2, 65);
        gives("method{v2=call m7(0,0);return v2;}" + "method{}".repeat(6) + "method{return 7;}", 0, 0, 7);
    }

    private static void variablesAndRows() {
        sentence("There are the variables 0 to 5 and the rows 0 to 2.");
        for (int v = 0; v <= 5; v++) {
            gives("v" + v + "=50+" + v + ";return v" + v + ";", 50 + v);
            fineIn("v" + v + "=call m0(v" + v + ",0);", 1);
        }
        for (int r = 0; r <= 2; r++) {
            gives("r" + r + "=row 2;r" + r + "[1]=9;return r" + r + "[1]+size r" + r + ";", 11);
        }
        gives("v0=0;v1=1;v2=2;v3=3;v4=4;v5=5;return v0+10*v1+100*v2+1000*v3-v4-v5;", 3201);
        gives("r0=row 1;r1=row 2;r2=row 3;return size r0*100+size r1*10+size r2;", 123);
        for (String n : new String[] {"6", "06", "7", "10", "99"}) {
            faultyIn("@v" + n + "=1;", 2);
            faultyIn("return @v" + n + ";", 2);
        }
        for (String n : new String[] {"3", "03", "4", "10", "99"}) {
            faultyIn("@r" + n + "=none;", 2);
            faultyIn("return size @r" + n + ";", 2);
        }
    }

    private static void statements() {
        sentence("Statements are numbered from 0 by their first tokens, through the whole text; there are at most 80.");
        WaysAtlas x = Checks.made("method{guard{mark 1;guard{}catch k1{mark 2;}}catch k0{mark 3;}}method{if 1=1{mark 4;}else{"
                + "mark 5;}mark 6;}", true);
        int[] marks = {1, 3, 4, 6, 7, 8};
        int entries = 0;
        for (int s = -1; s <= 9; s++) {
            boolean isMark = false;
            for (int m : marks) {
                isMark |= m == s;
            }
            entries += isMark ? 1 : 0;
            due("a mark is " + s, x.plan(s, 0, 1, 0), isMark ? entries : BAD);
        }
        due("the inner catch's statement", x.handler(0, 0), 2);
        due("the outer catch's statement", x.handler(1, 0), 0);
        String head = "method{loop 1{guard{}catch k0{";
        for (String form : FORMS) {
            fine(head + "v0=1;".repeat(77) + form + "}}}", 80);
            String full = head + "v0=1;".repeat(78);
            faulty(full + form + "}}}", 2, full.length());
            faulty(full + "}}}method{" + form, 2, full.length() + 10);
        }
        // Programs with as many statements of one form as there may be are run as others are.
        String[] forms = {"loop 1{}", "with 1{}", "guard{}catchk0{}", "guard{}finally{}", "if 1=1{}", "r0=row 1;", "mark 1;",
            "call m1(0,0);", "loop 1{leave 1;}", "with 1{}catchk0{}", "with 1{}finally{}"};
        for (String form : forms) {
            int times = Math.min(79, 900 / form.length()) / (form.contains("leave") ? 2 : 1);
            String text = in(form.repeat(times) + "return 7;") + "method{}";
            gives(text, 0, 0, 7);
        }
        gives(in("loop 1{}".repeat(75) + "loop 2{guard{v2=v2+1;leave 1;}finally{}}return v2;"), 0, 0, 1);
        String full = "method{" + "v0=1;".repeat(79) + "mark 1;}";
        fine(full, 80);
        x = Checks.made(full, true);
        due("the last one is 79", x.plan(79, 0, 1, 0), 1);
        due("there is no 80", x.plan(80, 0, 1, 0), BAD);
    }

    private static void blocks() {
        sentence("Blocks are nested at most 6 deep (the braces of a method do not count).");
        String[][] nests = {{"if 1=1{", "}"}, {"if 1=1{}else{", "}"}, {"loop 1{", "}"}, {"guard{", "}finally{}"},
            {"guard{}catch k0{", "}"}, {"guard{}finally{", "}"}, {"with 1{", "}"}, {"with 1{}catch k1{", "}"},
            {"with 1{}finally{", "}"}};
        for (String[] nest : nests) {
            String six = "method{" + nest[0].repeat(6);
            String ends = nest[1].repeat(6) + "}";
            fine(six + "mark 1;" + ends, 7);
            for (String[] inner : nests) {
                faulty(six + inner[0] + "mark 1;" + inner[1] + ends, 2, six.length() + inner[0].indexOf('{'));
            }
        }
        // One after the other they are not nested.
        fineIn("loop 1{}".repeat(20), 20);
        fineIn("if 1=1{if 1=1{if 1=1{if 1=1{if 1=1{if 1=1{}else{}}else{if 1=1{}}}}}}", 7);
        fineIn("loop 1{loop 1{loop 1{loop 1{loop 1{loop 1{}loop 1{}}loop 1{}}}}}loop 1{loop 1{loop 1{loop 1{loop 1{loop 1{}}}}}}",
                14);
        fine("method{loop 1{loop 1{loop 1{loop 1{loop 1{loop 1{}}}}}}}".repeat(2), 12);
    }

    private static void levels() {
        sentence("In one sum, \"(\", \"[\", \"-\" in front of a factor, and \"size\" are nested at most 8 deep.");
        String[][] outers = {{"(", ")"}, {"-", ""}, {"r0[", "]"}};
        String[] inners = {"@(1)", "@-1", "r0@[1]", "@size r0"};
        for (int i = 0; i < outers.length; i++) {
            for (String inner : inners) {
                // The second level may be of another form than the others.
                for (String[] second : outers) {
                    String six = outers[i][0].repeat(3) + second[0] + outers[i][0].repeat(3);
                    String ends = outers[i][1].repeat(3) + second[1] + outers[i][1].repeat(3);
                    fineIn("v0=" + six + inner.replace("@", "") + ends + ";", 1);
                    faultyIn("v0=" + outers[i][0] + six + inner + ends + outers[i][1] + ";", 2);
                    faultyIn("return 1+2*" + outers[i][0] + six + inner + "*3" + ends + outers[i][1] + "-4;", 2);
                }
            }
        }
        String eight = "((((((((1))))))))";
        String minus = "--------1";
        fineIn("v0=" + eight + "+" + eight + "*" + eight + "-" + minus + ";", 1);
        fineIn("v0=((((((((1-1+2*3/4%5-6))))))));", 1);
        fineIn("v0=((((((((v0*v1))))))));", 1);
        faultyIn("v0=((((((((v0*@-v1))))))));", 2);
        faultyIn("v0=((((((((r0@[1]))))))));", 2);
        fineIn("v0=-------1*((((((((v1))))))));", 1);
        fineIn("v0=((((((((v0)*(v1))*(v2)))))));", 1);
        // Each sum of a statement is one; what stands around it is no part of it.
        fineIn("if " + eight + "=" + minus + "{}", 1);
        fineIn("loop " + eight + "{}", 1);
        fineIn("return " + eight + ";", 1);
        fineIn("r0=row " + minus + ";", 1);
        fineIn("r0[" + eight + "]=" + minus + ";", 1);
        fineIn("r0[" + minus + "]=" + eight + ";", 1);
        fineIn("call m0(" + eight + "," + minus + ");", 1);
        fineIn("v0=call m0(" + minus + "," + eight + ");", 1);
        faultyIn("r0[((((((((@(1)))))))))]=1;", 2);
        faultyIn("r0[1]=--------@-1;", 2);
        faultyIn("call m0(1,--------@-1);", 2);
        gives("return " + minus + ";", 1);
        gives("return ------(-1);", -1);
        gives("return -------1;", -1);
        gives("r0=row 8;r0[1]=1;return r0[r0[r0[r0[r0[r0[r0[r0[1]]]]]]]];", 1);
    }

    private static void firstFault() {
        sentence("A text that is not a program has a fault, which has a number and a place. The first fault of number 1 or 2 in "
                + "the text counts; only if there is none, the first one of number 3:");
        faultyIn("mark @;v6=1;", 1);
        faultyIn("@v6=1;mark ;", 2);
        faultyIn("mark @;mark ;", 1);
        faultyIn("@v6=v7;", 2);
        faultyIn("again;mark @;", 1);
        faultyIn("again;@v6=1;", 2);
        faultyIn("leave 1;call m7(0,0);throw k7;wrap k9;with @4{}", 2);
        faulty("kind under k9;method{again;", 1, 27);
        faulty("method{call m1(0,0);leave 0;", 1, 28);
        faultyIn("@again;leave 1;", 3);
        faultyIn("leave @1;again;", 3);
        faultyIn("call @m1(0,0);again;", 3);
        faultyIn("@again;call m1(0,0);", 3);
        faulty("kind under k7;method{again;}", 3, 11);
        faulty("method{call m2(0,0);}method{again;}", 3, 12);
        faulty("method{loop 1{again;}}method{call m2(0,0);}", 3, 14);
        faultyIn("@wrap k9;", 3);
        faultyIn("throw @k9;throw k8;", 3);
        // A fault 3 is none if what was missing comes later.
        fine("method{call m1(0,0);}method{}", 1);
    }

    private static void faultOne() {
        sentence("1: a token that cannot stand there by the grammar; also what is no token, and the end of the text (its length) if "
                + "the text is not complete;");
        String[] tokens = WHOLE.split(" ");
        String before = "";
        for (String token : tokens) {
            String rest = WHOLE.substring(before.length());
            if (before.endsWith("} } ")) {
                // Complete, but for the method that is called.
                faulty(before, 3, WHOLE.indexOf("m1"));
            } else {
                faulty(before, 1, before.length());
                faulty(before + "\n", 1, before.length() + 1);
            }
            faulty(before + "? " + rest, 1, before.length());
            faulty(before + "12345 " + rest, 1, before.length());
            if (!token.equals("under")) {
                faulty(before + "under " + rest, 1, before.length());
            }
            before += token + " ";
        }
        faultyIn("mark @v1;", 1);
        faultyIn("mark 1@}", 1);
        faultyIn("@m1=1;", 1);
        faultyIn("v0@;", 1);
        faultyIn("v0=@;", 1);
        faultyIn("v0=1+@;", 1);
        faultyIn("v0=1+@+1;", 1);
        faultyIn("v0=(1@;", 1);
        faultyIn("v0=1@);", 1);
        faultyIn("v0=(@);", 1);
        faultyIn("v0=@row 1;", 1);
        faultyIn("v0=@none;", 1);
        faultyIn("v0=r0@;", 1);
        faultyIn("v0=size @1;", 1);
        faultyIn("v0=size @(r0);", 1);
        faultyIn("v0=size r0@[1];", 1);
        faultyIn("v0=1+@call m0(0,0);", 1);
        faultyIn("return @call m0(0,0);", 1);
        faultyIn("return @;", 1);
        faultyIn("r0=@1;", 1);
        faultyIn("r0=@size r1;", 1);
        faultyIn("r0=r1@[0];", 1);
        faultyIn("r0[1]@;", 1);
        faultyIn("r0[1]=@none;", 1);
        faultyIn("r0[1]=@call m0(0,0);", 1);
        faultyIn("call m0(1@);", 1);
        faultyIn("call m0(1,2@,3);", 1);
        faultyIn("call m0@;", 1);
        faultyIn("call @v0(1,2);", 1);
        faultyIn("if 1@{}", 1);
        faultyIn("if 1<@=2{}", 1);
        faultyIn("if 1<2@>3{}", 1);
        faultyIn("if 1<2@mark 1;", 1);
        faultyIn("loop @{}", 1);
        faultyIn("leave @;", 1);
        faultyIn("leave @k1;", 1);
        faultyIn("throw @;", 1);
        faultyIn("again @k1;", 1);
        faultyIn("wrap @;", 1);
        faultyIn("with @{}", 1);
        faultyIn("with @v1{}", 1);
        faultyIn("with 1@+1{}", 1);
        faultyIn("guard{}catch @{}", 1);
        faultyIn("guard{}catch @v1{}", 1);
        faultyIn("guard{}catch k1@;", 1);
        faultyIn("guard{}finally @k1{}", 1);
        faultyIn("@{}", 1);
        faultyIn("@;", 1);
    }

    private static void faultTwo() {
        sentence("2: a token that could stand there, but with which the 81st statement, the 9th method (at \"method\"), the 17th kind "
                + "(at \"kind\"), a 7th block (at \"{\") or a 9th level in a sum begins; or a VAR or ROW that does not exist, or a NUMBER "
                + "after \"with\" that is not 1 to 3;");
        String eighty = "method{" + "v0=1;".repeat(80);
        faulty(eighty + "v0=1;}", 2, 407);
        faulty(eighty + "v6=1;}", 2, 407);
        faulty(eighty + "again", 2, 407);
        faulty(eighty + "else{}}", 1, 407);
        faulty(eighty + "7;}", 1, 407);
        faulty(eighty, 1, 407);
        faulty(eighty + "}method{\n mark 1;}", 2, 417);
        fine(eighty + "}" + "method{}".repeat(7), 80);
        String methods = "method{}".repeat(8);
        faulty(methods + "method", 2, 64);
        faulty(methods + "\nmethod{}", 2, 65);
        faulty(methods + "kind under k0;", 1, 64);
        faulty(methods + "mark", 1, 64);
        String kinds = "kind under k0;".repeat(9);
        faulty(kinds + "kind", 2, 126);
        faulty(kinds + " kind under k0;method{}", 2, 127);
        faulty(kinds + "under", 1, 126);
        faulty(kinds, 1, 126);
        faulty("method{}" + kinds, 1, 8);
        String six = "loop 1{".repeat(6);
        faultyIn(six + "loop 1@{", 2);
        faultyIn(six + "loop 1 \n@{", 2);
        faultyIn(six + "loop 1@}", 1);
        faultyIn(six + "loop 1@(", 1);
        faultyIn(six + "@{", 1);
        faultyIn("v0=((((((((@(", 2);
        faultyIn("v0=((((((((@-", 2);
        faultyIn("v0=((((((((@size", 2);
        faultyIn("v0=((((((((r0@[", 2);
        faultyIn("v0=((((((((r0@(", 1);
        faultyIn("v0=((((((((@)", 1);
        faultyIn("v0=((((((((1@(", 1);
        faultyIn("v0=((((((((@[", 1);
        faultyIn("v0=((((((((@r3[1]", 2);
        for (String before : new String[] {"", "v0=", "v0=1+", "v0=1*", "v0=(", "v0=-", "v0=r0[", "return ", "if ", "if 1=",
            "loop ", "r0=row ", "r0[", "r0[0]=", "call m0(", "call m0(1,", "v0=call m0("}) {
            faultyIn(before + "@v6", 2);
            faultyIn(before + "@v99", 2);
            faultyIn(before + "@r3", 2);
            faultyIn(before + "@r99", 2);
        }
        faultyIn("r0=@r3;", 2);
        faultyIn("r0=@v6;", 1);
        faultyIn("v0=size @r3;", 2);
        faultyIn("v0=size @v6;", 1);
        faultyIn("mark @v6;", 1);
        faultyIn("v0=1 @v6;", 1);
        faultyIn("throw @v6;", 1);
        for (String n : new String[] {"0", "00", "0000", "4", "04", "10", "0004", "9999"}) {
            faultyIn("with @" + n + "{}", 2);
            faultyIn("with @" + n, 2);
        }
        for (String n : new String[] {"1", "2", "3", "01", "0003"}) {
            fineIn("with " + n + "{}", 1);
        }
        faultyIn("with @-1{}", 1);
    }

    private static void faultThree() {
        sentence("3: a KIND or METHOD that does not exist (after \"under\": that is not declared before);");
        faultyIn("throw @k7;", 3);
        faultyIn("throw @k16;", 3);
        faultyIn("throw @k99;", 3);
        faultyIn("guard{}catch @k7{}", 3);
        faultyIn("guard{}catch k0{wrap @k7;}", 3);
        fineIn("throw k6;guard{}catch k6{wrap k06;}", 3);
        fine("kind under k6;method{throw k7;}", 1);
        faulty("kind under k6;method{throw k8;}", 3, 27);
        faulty("kind under k7;method{}", 3, 11);
        faulty("kind under k07;method{}", 3, 11);
        faulty("kind under k8;kind under k0;method{}", 3, 11);
        faulty("kind under k0;kind under k8;method{}", 3, 25);
        fine("kind under k0;kind under k7;kind under k8;kind under k7;method{throw k10;}", 1);
        faultyIn("call @m1(0,0);", 3);
        faultyIn("v0=call @m01(0,0);", 3);
        faultyIn("call @m99(0,0);", 3);
        fineIn("call m0(0,0);v0=call m00(0,0);", 2);
        fine("method{call m7(0,0);}" + "method{}".repeat(7), 1);
        faulty("method{call m7(0,0);}" + "method{}".repeat(6), 3, 12);
        faulty("method{call m8(0,0);}" + "method{}".repeat(7), 3, 12);

        sentence("a NUMBER after leave or next that is 0, or greater than the number of loops around it in the method;");
        for (String word : new String[] {"leave", "next"}) {
            for (int loops = 0; loops <= 6; loops++) {
                for (int n = 0; n <= 8; n++) {
                    String head = "loop 1{".repeat(loops) + word + " ";
                    String tail = n + ";" + "}".repeat(loops);
                    if (n >= 1 && n <= loops) {
                        fineIn(head + tail, loops + 1);
                    } else {
                        faultyIn(head + "@" + tail, 3);
                    }
                }
            }
            faultyIn(word + " @9999;", 3);
            faultyIn("loop 1{" + word + " @0000;}", 3);
            fineIn("loop 1{" + word + " 0001;}", 2);
            fineIn("loop 1{guard{if 1=1{" + word + " 1;}}catch k0{" + word + " 1;}finally{" + word + " 1;}}", 6);
            fineIn("loop 1{with 1{" + word + " 1;}catch k0{loop 2{" + word + " 2;}}}", 5);
            faultyIn("loop 1{}" + word + " @1;", 3);
            faultyIn("loop 1{loop 2{}" + word + " @2;}", 3);
            faultyIn("if 1=1{" + word + " @1;}", 3);
            faulty("method{loop 1{call m1(0,0);}}method{" + word + " 1;}", 3, 36 + word.length() + 1);
            faulty("method{loop 1{}}method{loop 1{" + word + " 2;}}", 3, 30 + word.length() + 1);
        }

        sentence("wrap or again (at the word) that is not within the block of a catch.");
        for (String word : new String[] {"again", "wrap k1"}) {
            String it = word + ";";
            faultyIn("@" + it, 3);
            faultyIn("loop 1{@" + it + "}", 3);
            faultyIn("guard{@" + it + "}catch k0{}", 3);
            faultyIn("guard{}catch k0{}finally{@" + it + "}", 3);
            faultyIn("guard{}catch k0{}@" + it, 3);
            faultyIn("guard{}catch k0{guard{}catch k1{}}@" + it, 3);
            faultyIn("with 1{@" + it + "}", 3);
            faultyIn("with 1{}catch k0{}finally{@" + it + "}", 3);
            fineIn("guard{}catch k0{" + it + "}", 2);
            fineIn("with 1{}catch k0{" + it + "}", 2);
            fineIn("guard{}catch k1{}catch k0{" + it + "}", 2);
            fineIn("guard{}catch k0{guard{" + it + "}finally{" + it + "}}", 4);
            fineIn("guard{}catch k0{guard{}catch k0{" + it + "}" + it + "}", 4);
            fineIn("guard{}catch k0{loop 1{if 1=2{}else{with 1{" + it + "}}}}", 5);
            fineIn("guard{}finally{guard{}catch k0{" + it + "}}", 3);
            faulty("method{guard{}catch k0{call m1(0,0);}}method{" + it + "}", 3, 45);
        }
        faultyIn("@wrap k7;", 3);
        faultyIn("guard{}catch k0{wrap @k7;}", 3);
    }
}
