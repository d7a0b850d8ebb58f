/** Promise 3: what is SYNTAX, and what just is not. */
public final class Promise03FormTest {
    private static final int SYNTAX = PolicyDesk.SYNTAX;
    private static final int UNKNOWN = PolicyDesk.UNKNOWN;
    private static final String NAME24 = "abcdefghijkl/nopqrstuvwx";
    private static final String PART12 = "abcdefghijkl";

    public static void main(String[] args) {
        spaces();
        headings();
        names();
        members();
        types();
        shapes();
        marks();
        patterns();
        costs();
        asks();
        aRefusedLineChangesNothing();
        Tester.end();
    }

    private static void refused(String... lines) {
        for (String line : lines) {
            Tester tester = new Tester();
            tester.due(line, SYNTAX);
            Tester.same("count(5) of [" + line + "]", tester.count(5), 1);
            Tester.same("the line is empty after [" + line + "]", tester.count(6), 0);
        }
    }

    private static void spaces() {
        refused("", " ", "  ", "new", "new ", " new Object", "new Object ", "new  Object", "newObject",
                "foo", "foo Object", "New Object", "NEW Object", ":", "class", "class A ", "a b c d e f g h");
        new Tester().due("new Object", PolicyDesk.DENIED);
    }

    private static void headings() {
        refused("class :", "class A :", "class A B", "class A B C", "class : A", "class A : :",
                "class A : Object Object Object Object", "class A, : Object", "class A: Object",
                "class A :Object", "class A ; Object", "class A : Object I J K", "class A : B.c",
                "class A : Object I,J", "class A : Object I *", "class A : Object ! J",
                "interface", "interface A B", "interface A :", "interface A : I J K", "interface A : I J K L",
                "interface A : I /");
        new Tester().due("interface I", 2).due("interface J", 3).due("class A : Object I J", 4)
                .due("class B : Object I", 5).due("class C : Object", 6).due("class D", 7)
                .due("interface K : I", 8).due("interface L : I J", 9);
    }

    private static void names() {
        refused("class /", "class /a", "class a/", "class a//b", "class a.b", "class a-b", "class a*",
                "class **", "class a/*", "class " + NAME24 + "y", "class a;", "class (a)", "class [a", "class ~",
                "class @", "class a`", "class {", "class ^", "class a\\b", "class !", "class #", "class %a");
        new Tester().due("class " + NAME24, 2).due("class " + NAME24, PolicyDesk.EXISTS)
                .due("class a", 3).due("class z/Z/0/9/_/$", 4).due("class A", 5).due("class 0", 6)
                .due("class $", 7).due("class _", 8).due("class class", 9).due("class I", 10);
    }

    private static void members() {
        refused("field Object I", "field Object. I", "field .f I", "field Object.f.g I", "field Object.f/g I",
                "field Object.* I", "field Object.f", "field Object.f I s s", "field Object.f- I",
                "field Object." + PART12 + "m I", "field " + NAME24 + "y.f I", "field a/.f I",
                "method Object.", "method Object.m", "method Object." + PART12 + "m ()V", "method Object ()V",
                "method Object.m ()V s n");
        new Tester().due("field Object." + PART12 + " I", 0).due("class " + NAME24, 2)
                .due("field " + NAME24 + "." + PART12 + " I", 1).due("field Object.$_09azAZ I", 2)
                .due("method Object." + PART12 + " ()V", 3);
    }

    private static void types() {
        for (String type : new String[] {"V", "i", "A", "II", "L", "L;", "LObject", "LObject;;", "La//b;", "L/a;",
            "L" + NAME24 + "y;", "[", "[[", "[V", "I[", "[]", "()V", "(I)I", ";", "La.b;", "LObject;I", "[L;", "X"}) {
            refused("field Object.f " + type, "get Object.f " + type);
        }
        Tester tester = new Tester();
        int number = 0;
        for (String type : new String[] {"I", "J", "F", "D", "Z", "B", "C", "S", "LObject;", "Lno/such;", "[I",
            "[[[J", "[LObject;", "L" + NAME24 + ";", "LL;", "LV;"}) {
            tester.due("get Object.f " + type, UNKNOWN);
            tester.due("field Object.f " + type, number++);
        }
        tester.due("field Object.f [[[[[[[[[[[[[[[[[[[[[[[[[[[[[[[[[[[[[[[[[[[[I", number);
        new Tester().due("field Object.f [[[[[[[[[[[[[[[[[[[[[[[[[[[[[[[[[[[[[[[[[[[[[", SYNTAX);
    }

    private static void shapes() {
        for (String shape : new String[] {"I", "V", "(", ")", "()", "(V", "(V)V", "(I", "()VV", "()X", "()[V", "()[",
            "(I)", "(I)V)", "((I)V", "(L)V", "(LObject)V", "([)V", "(I,J)V", "()II", "I()V", "(X)V", "(I)VI", "())V",
            "(LObject;;)V", "()L;", "()LObject"}) {
            refused("method Object.m " + shape, "call Object.m " + shape);
        }
        Tester tester = new Tester();
        int number = 0;
        for (String shape : new String[] {"()V", "()I", "(I)V", "(IJFDZBCS)V", "(LObject;)LObject;", "([I[[J)[[Z",
            "(La;Lb/c;I[Ld;)V", "()[La;", "(LV;)V", "(IIIIIIIIIIIIIIIIIIIIIIIIIIIIIIIIIIIIIIIII)V"}) {
            tester.due("call Object.m " + shape, UNKNOWN);
            tester.due("method Object.m " + shape, number++);
        }
    }

    private static void marks() {
        for (String marks : new String[] {"x", "ss", "nn", "sns", "S", "N", "s,n", "sx", "xs", "0"}) {
            refused("field Object.f I " + marks, "method Object.m ()V " + marks);
        }
        Tester tester = new Tester().due("field Object.f I s", 0).due("field Object.g I n", 1)
                .due("method Object.m ()V sn", 2).due("method Object.n ()V ns", 3);
        int[] marks = {1, 2, 3, 3};
        for (int m = 0; m < marks.length; m++) {
            Tester.same("marks of " + m, tester.member(m, 2), marks[m]);
        }
    }

    private static void patterns() {
        for (String pattern : new String[] {"*", "***", "/*", "/**", "a*", "a**", "a/***", "**/a", "**/*", "*/a", "a/*/b",
            "a/**/b", "a/", "a//*", "a/*/*", "a.", "a.**", "a.b.c", "a.*.*", ".a", ".*", ".", "**.", "**.**", "a.b*",
            "a.*b", "a.b/c", "a/*.", "a/**.-", NAME24 + "y", NAME24 + "y/*", NAME24 + "y/**", "a.b-", "**."}) {
            refused("allow " + pattern, "deny " + pattern, "cost " + pattern + " 1",
                    "shim " + pattern + " Object.m");
        }
        Tester tester = new Tester();
        int number = 0;
        for (String pattern : new String[] {"**", "a", "a/b", "a/*", "a/**", "**.*", "**.m", "a.*", "a.m", "a/*.*", "a/*.m",
            "a/**.*", "a/**.m", NAME24, NAME24 + "/*", NAME24 + "/**", NAME24 + "/**." + PART12,
            "a." + PART12 + PART12}) {
            tester.due("allow " + pattern, number++);
        }
        refused("allow", "allow a b", "deny", "deny a 1", "shim a", "shim", "shim a Object", "shim a Object.m ()V",
                "shim a b.*", "shim a a.*", "shim Object.m", "shim ** Object." + PART12 + "m");
    }

    private static void costs() {
        for (String n : new String[] {"-1", "1000", "00", "01", "000", "001", "+1", "1.0", "a", "0x1", "9999", "10000000000",
            "1 1", "1a", "/", ":"}) {
            refused("cost ** " + n);
        }
        refused("cost", "cost **", "cost 1", "cost ** ");
        new Tester().due("cost ** 0", 0).due("cost ** 9", 1).due("cost ** 10", 2).due("cost ** 999", 3)
                .due("cost ** 100", 4);
    }

    private static void asks() {
        refused("new", "new Object Object", "new Object.f", "new **", "cast", "cast Object I", "cast a/*",
                "catch", "catch Object Budget", "catch .", "get Object I", "get Object.f", "get Object.f I s",
                "get Object.f ()V", "call Object ()V", "call Object.m", "call Object.m I", "call Object.m ()V s",
                "get Object." + PART12 + "m I", "call Object." + PART12 + "m ()V", "new " + NAME24 + "y");
        new Tester().due("new a", UNKNOWN).due("cast a", UNKNOWN).due("catch a", UNKNOWN)
                .due("get a.f I", UNKNOWN).due("call a.m ()V", UNKNOWN).due("new " + NAME24, UNKNOWN);
    }

    private static void aRefusedLineChangesNothing() {
        Tester tester = new Tester().given("allow **");
        for (String line : new String[] {"class a.b", "field Object.f X", "method Object.m X", "allow *", "new *"}) {
            tester.due(line, SYNTAX);
        }
        int[] counts = {2, 0, 1, 0, 0, 5, 0, 0};
        for (int what = 0; what < counts.length; what++) {
            Tester.same("count(" + what + ")", tester.count(what), counts[what]);
        }
        Tester.same("no audit", tester.audit(0), null);
    }
}
