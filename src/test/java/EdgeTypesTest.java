/** The edges of a TYPE, a SHAPE and MARKS. */
public final class EdgeTypesTest {
    private static final int SYNTAX = PolicyDesk.SYNTAX;
    private static final String SIMPLE = "IJFDZBCS";

    public static void main(String[] args) {
        oneOfEight();
        aNameBetweenLAndItsEnd();
        arrays();
        oneTypeAlone();
        noTypesToMany();
        typesInside();
        aTypeOrV();
        bracketsOfAShape();
        marks();
        Tester.end();
    }

    private static void type(String type, boolean isGood) {
        for (String verb : new String[] {"field", "get"}) {
            new Tester().due(verb + " Object.f " + type, !isGood ? SYNTAX : verb.equals("get") ? PolicyDesk.UNKNOWN : 0);
        }
    }

    private static void shape(String shape, boolean isGood) {
        for (String verb : new String[] {"method", "call"}) {
            new Tester().due(verb + " Object.m " + shape, !isGood ? SYNTAX : verb.equals("call") ? PolicyDesk.UNKNOWN : 0);
        }
    }

    private static void oneOfEight() {
        Tester.sentence("A TYPE: one of I J F D Z B C S");
        for (char c = 32; c <= 126; c++) {
            boolean isGood = SIMPLE.indexOf(c) >= 0;
            type(String.valueOf(c), isGood);
            type("[" + c, isGood);
            shape("(" + c + ")V", isGood);
            shape("(I" + c + ")V", isGood);
        }
        type("", false);
    }

    private static void aNameBetweenLAndItsEnd() {
        Tester.sentence("L, a NAME, ;");
        for (String bad : new String[] {"L", "L;", "La", "L;a", "La;;", "a;", "La/;", "L/a;", "L/;", "La//b;", "La.b;", "L[a;",
            "La:", "La,", "la;", "L*;", "La/*;", "LLa;;", "L a;", "La ;", "La b;", "L" + "a".repeat(25) + ";"}) {
            type(bad, false);
            shape("(" + bad + ")V", false);
            shape("()" + bad, false);
        }
        for (String good : new String[] {"La;", "LObject;", "Lno/such;", "LL;", "LLa;", "LI;", "LV;", "L0;", "L" + "a".repeat(24) + ";"}) {
            type(good, true);
            shape("(" + good + ")V", true);
            shape("()" + good, true);
        }
    }

    private static void arrays() {
        Tester.sentence("or [ and a TYPE");
        for (int deep = 0; deep <= 44; deep++) { // a LINE of 60 letters
            type("[".repeat(deep) + "I", true);
            type("[".repeat(deep + 1), false);
            type("[".repeat(deep) + "V", false);
        }
        for (int deep = 0; deep <= 42; deep++) {
            type("[".repeat(deep) + "La;", true);
            type("[".repeat(deep) + "L;", false);
        }
        for (String bad : new String[] {"I[", "[I[", "[]", "[]I", "I[]", "[I]", "[(", "[()V", "[ I", "La[;", "La;["}) {
            type(bad, false);
        }
        for (int deep = 0; deep <= 39; deep++) {
            shape("(" + "[".repeat(deep) + "I)V", true);
            shape("()" + "[".repeat(deep) + "I", true);
            shape("(" + "[".repeat(deep + 1) + ")V", false);
            shape("(" + "[".repeat(deep + 1), false); // neither closed nor a TYPE
            shape("(I" + "[".repeat(deep), false);
            shape("()" + "[".repeat(deep + 1), false);
            shape("()[" + "[".repeat(deep) + "V", false);
        }
    }

    private static void oneTypeAlone() {
        Tester.sentence("field MEMBER TYPE");
        for (String bad : new String[] {"II", "ILa;", "La;I", "La;La;", "[I[I", "[II", "I;", "V", "()V", "()I", "(I)", "I)", "(I"}) {
            type(bad, false);
        }
        type("[I", true);
    }

    private static void noTypesToMany() {
        Tester.sentence("A SHAPE: (, TYPES, ), and a TYPE or V.");
        for (int types = 0; types <= 41; types++) { // a LINE of 60 letters
            shape("(" + "J".repeat(types) + ")V", true);
            shape("(" + "J".repeat(types) + ")Z", true);
            shape("(" + "J".repeat(types) + ")", false);
            shape("(" + "J".repeat(types), false);
        }
        shape("(La;[Lb/c;I[[JLd;)V", true);
        shape("(IJFDZBCS)V", true);
        shape("(SCBZDFJI)[La;", true);
    }

    private static void typesInside() {
        Tester.sentence("A SHAPE: (, TYPES, )");
        for (String bad : new String[] {"(V)V", "(IV)V", "(VI)V", "([V)V", "([)V", "(I[)V", "(L)V", "(L;)V", "(La)V", "(La;;)V",
            "(I,J)V", "(I J)V", "(I;J)V", "( )V", "(X)V", "((I))V", "(()V)V", "(La;b)V", "(*)V"}) {
            shape(bad, false);
        }
        shape("(I[J)V", true);
    }

    private static void aTypeOrV() {
        Tester.sentence("), and a TYPE or V.");
        for (char c = 32; c <= 126; c++) {
            shape("()" + c, c == 'V' || SIMPLE.indexOf(c) >= 0);
            shape("(I)" + c, c == 'V' || SIMPLE.indexOf(c) >= 0);
            shape("()V" + c, false);
            shape("()I" + c, false);
        }
        for (String bad : new String[] {"()", "()VV", "()VI", "()IV", "()II", "()[V", "()[", "()L;", "()La", "()La;V", "()La;;"}) {
            shape(bad, false);
        }
    }

    private static void bracketsOfAShape() {
        Tester.sentence("A SHAPE: (, TYPES, ), and");
        for (String bad : new String[] {"", "V", "I", "(", ")", "(V", ")V", "(I", "(IV", "I)V", "((I)V", "(I))V", "()()V", "(I)(J)V",
            "[()V", "[(I)V", "V()", "I(I)V", "{}V", "<I>V", "(I]V"}) {
            shape(bad, false);
        }
        shape("()V", true);
    }

    private static void marks() {
        Tester.sentence("MARKS are one or more of s (STATIC), n (NATIVE), no letter twice.");
        String[] letters = {"", "s", "n", "x", "S", "N", ","};
        for (String a : letters) {
            for (String b : letters) {
                for (String c : letters) {
                    marked(a + b + c);
                }
            }
        }
        for (char c = 33; c <= 126; c++) {
            marked(String.valueOf(c));
            marked("s" + c);
            marked(c + "n");
        }
        marked("snsn");
        marked("ssss");
    }

    private static void marked(String marks) {
        boolean isGood = marks.equals("s") || marks.equals("n") || marks.equals("sn") || marks.equals("ns");
        for (String line : new String[] {"field Object.f I ", "method Object.f ()V "}) {
            Tester tester = new Tester().due(line + marks, isGood ? 0 : SYNTAX);
            int due = (marks.contains("s") ? 1 : 0) + (marks.contains("n") ? 2 : 0);
            Tester.same("member(0, 2) of [" + marks + "]", tester.member(0, 2), isGood ? due : PolicyDesk.UNKNOWN);
        }
        Tester without = new Tester().due("field Object.f I", 0).due("method Object.f ()V", 1);
        Tester.same("a field without MARKS", without.member(0, 2), 0);
        Tester.same("a method without MARKS", without.member(1, 2), 0);
    }
}
