/** The edges of classes and INTERFACES: how they are declared, how many there are, what is BELOW what. */
public final class EdgeClassesTest {
    private static final int SYNTAX = PolicyDesk.SYNTAX;
    private static final int UNKNOWN = PolicyDesk.UNKNOWN;
    private static final int EXISTS = PolicyDesk.EXISTS;
    private static final int KIND = PolicyDesk.KIND;
    private static final int FULL = PolicyDesk.FULL;

    public static void main(String[] args) {
        objectAndBudget();
        oneAbove();
        objectWithout();
        upToTwoInterfaces();
        wordsOfAClass();
        wordsOfAnInterface();
        notThere();
        alreadyThere();
        aboveIsAnInterface();
        anInterfaceThatIsNone();
        theSameInterfaceTwice();
        likewiseForAnInterface();
        fourteenClasses();
        inThisOrder();
        isBelow();
        belowTheWholeWay();
        Tester.end();
    }

    private static Tester ready() {
        return new Tester().given("interface I", "interface J", "class A"); // 2, 3, 4
    }

    private static void row(Tester tester, int c, int above, int isInterface, int interfaces, int first, int second) {
        int[] due = {above, isInterface, interfaces, first, second};
        for (int what = 0; what < due.length; what++) {
            Tester.same("cls(" + c + ", " + what + ")", tester.cls(c, what), due[what]);
        }
    }

    private static void objectAndBudget() {
        Tester.sentence("Object (number 0) and Budget (number 1, above it Object) are there");
        Tester tester = new Tester().due("class Object", EXISTS).due("class Budget", EXISTS).due("interface Object", EXISTS)
                .due("interface Budget", EXISTS).due("new Object", PolicyDesk.DENIED).due("new Budget", PolicyDesk.DENIED)
                .due("class object", 2).due("class Budget0", 3).due("class p/Object", 4);
        row(tester, 0, -1, 0, 0, UNKNOWN, UNKNOWN);
        row(tester, 1, 0, 0, 0, UNKNOWN, UNKNOWN);
        Tester.same("Budget below Object", tester.below(1, 0), 1);
        Tester.same("Object below Budget", tester.below(0, 1), 0);
    }

    private static void oneAbove() {
        Tester.sentence("a class has one ABOVE it (but Object)");
        Tester tester = ready().due("class B : A", 5).due("class C : B", 6).due("class D : Budget", 7).due("class E : Object", 8);
        int[] above = {-1, 0, 0, 0, 0, 4, 5, 1, 0};
        for (int c = 0; c < above.length; c++) {
            Tester.same("cls(" + c + ", 0)", tester.cls(c, 0), above[c]);
        }
    }

    private static void objectWithout() {
        Tester.sentence("ABOVE it that NAME (Object without)");
        Tester tester = ready().due("class B", 5);
        row(tester, 5, 0, 0, 0, UNKNOWN, UNKNOWN);
        row(tester, 2, 0, 1, 0, UNKNOWN, UNKNOWN);
        // What is not said is no class either, whatever the names of the others.
        for (char name = 'a'; name <= 'z'; name++) {
            tester = new Tester().due("interface " + name, 2).due("class B", 3).due("class C : B", 4);
            row(tester, 3, 0, 0, 0, UNKNOWN, UNKNOWN);
            row(tester, 4, 3, 0, 0, UNKNOWN, UNKNOWN);
        }
    }

    private static void upToTwoInterfaces() {
        Tester.sentence("up to two INTERFACES that it has, or is an INTERFACE (Object is ABOVE it).");
        Tester tester = ready().due("class B : A", 5).due("class C : A J", 6).due("class D : A J I", 7)
                .due("class E : A I J K", SYNTAX).due("interface K", 8).due("interface L : J", 9)
                .due("interface M : K I", 10).due("interface N : I J K", SYNTAX).due("class O : A I J K", SYNTAX);
        row(tester, 5, 4, 0, 0, UNKNOWN, UNKNOWN);
        row(tester, 6, 4, 0, 1, 3, UNKNOWN);
        row(tester, 7, 4, 0, 2, 3, 2);
        row(tester, 8, 0, 1, 0, UNKNOWN, UNKNOWN);
        row(tester, 9, 0, 1, 1, 3, UNKNOWN);
        row(tester, 10, 0, 1, 2, 8, 2);
    }

    private static void wordsOfAClass() {
        Tester.sentence("class NAME, or class NAME : NAME, or class NAME : NAME I, or class NAME : NAME I J");
        for (String line : new String[] {"class", "class :", "class Z :", "class Z Object", "class Z Object I", "class Z : Object I J I",
            "class Z : Object I J A", "class Z : Object I J :", "class : Object", "class Z : : Object", "class Z : Object : I",
            "class Z , Object", "class Z :: Object", "class Z ; Object I", "class Z I : Object", "class Z : Object I, J",
            "class Z : Object I :", "class Z : :", "class Z :Object", "class Z: Object", "class Z:Object", "Class Z", "classes Z",
            "clas Z", "class Z : Object I J I J", "class Z : I.J", "class Z : Object I.J", "class Z : Object I J.I", "class Z * Object"}) {
            ready().due(line, SYNTAX).counts(5, 0, 0, 0, 0, 1, 0, 0);
        }
        for (String line : new String[] {"class Z", "class Z : Object", "class Z : Object I", "class Z : Object I J"}) {
            ready().due(line, 5).counts(6, 0, 0, 0, 0, 0, 0, 0);
        }
    }

    private static void wordsOfAnInterface() {
        Tester.sentence("interface NAME, or interface NAME : I, or interface NAME : I J");
        for (String line : new String[] {"interface", "interface :", "interface Z :", "interface Z I", "interface Z I J",
            "interface Z : I J I", "interface Z : I J A", "interface Z : I J :", "interface Z : : I", "interface Z , I",
            "interface Z :I", "interface Z: I", "interface Z : I J I J", "interface Z : I.J", "interface Z : I :", "interface Z : :",
            "Interface Z", "interfaces Z", "interfac Z", "interface : I", "interface Z : Object I J"}) {
            ready().due(line, SYNTAX).counts(5, 0, 0, 0, 0, 1, 0, 0);
        }
        for (String line : new String[] {"interface Z", "interface Z : I", "interface Z : I J"}) {
            ready().due(line, 5).counts(6, 0, 0, 0, 0, 0, 0, 0);
        }
    }

    private static void notThere() {
        Tester.sentence("all UNKNOWN if not there");
        for (String line : new String[] {"class Z : X", "class Z : X I", "class Z : A X", "class Z : X I J", "class Z : A X J",
            "class Z : A I X", "class Z : X X X", "class Z : Z", "class Z : A Z", "class Z : A I Z", "class Z : a", "class Z : A i",
            "interface Z : X", "interface Z : X J", "interface Z : I X", "interface Z : X X", "interface Z : Z", "interface Z : I Z"}) {
            ready().due(line, UNKNOWN).counts(5, 0, 0, 0, 0, 0, 0, 0);
        }
        ready().due("class Z : X", UNKNOWN).due("class X", 5).due("class Z : X", 6);
        ready().due("interface Z : I X", UNKNOWN).due("interface X", 5).due("interface Z : I X", 6);
    }

    private static void alreadyThere() {
        Tester.sentence("a class (EXISTS)");
        for (String line : new String[] {"class A", "interface A", "class I", "interface I", "class A : Object", "class A : Budget I",
            "class J : A I J", "interface J : I", "interface A : I J", "class A : A", "interface I : I"}) {
            ready().due(line, EXISTS).counts(5, 0, 0, 0, 0, 0, 0, 0);
        }
        ready().due("class a", 5).due("class A/A", 6).due("class AA", 7).due("interface i", 8).due("class AA", EXISTS);
    }

    private static void aboveIsAnInterface() {
        Tester.sentence("KIND if the one ABOVE is an INTERFACE");
        ready().due("class Z : I", KIND).due("class Z : I J", KIND).due("class Z : J I J", KIND).due("class Z : A", 5);
    }

    private static void anInterfaceThatIsNone() {
        Tester.sentence("or I or J is none");
        ready().due("class Z : Object A", KIND).due("class Z : Object A I", KIND).due("class Z : Object I A", KIND)
                .due("class Z : A Object", KIND).due("class Z : A I Budget", KIND).due("class Z : A A", KIND)
                .due("class Z : Object A A", KIND).due("class Z : Object I", 5).due("class Y : Object I J", 6);
    }

    private static void theSameInterfaceTwice() {
        Tester.sentence("or I is J");
        ready().due("class Z : Object I I", KIND).due("class Z : A J J", KIND).due("interface K : I I", KIND)
                .due("interface K : J J", KIND).due("class Z : Object I J", 5).due("class Y : Z I J", 6)
                .due("interface K : I", 7).due("class X : Object I K", 8);
    }

    private static void likewiseForAnInterface() {
        Tester.sentence("likewise, an INTERFACE that has INTERFACES.");
        ready().due("interface Z : A", KIND).due("interface Z : Object", KIND).due("interface Z : Budget I", KIND)
                .due("interface Z : I A", KIND).due("interface Z : A A", KIND).due("interface Z : J I", 5).due("class Y : Z", KIND)
                .due("class Y : A Z", 6).due("new Z", KIND);
    }

    /** A desk with classes up to the number 13: one fewer than may be, or all. */
    private static Tester filled(int classes) {
        Tester tester = ready();
        for (int number = 5; number < classes; number++) {
            tester.due(number % 2 == 0 ? "class C" + number : "interface C" + number, number);
        }
        return tester;
    }

    private static void fourteenClasses() {
        Tester.sentence("(FULL: 14 classes.)");
        for (String line : new String[] {"class Z", "class Z : A", "class Z : Object I", "class Z : A I J", "interface Z", "interface Z : I",
            "interface Z : I J"}) {
            filled(13).due(line, 13).counts(14, 0, 0, 0, 0, 0, 0, 0);
            Tester full = filled(14).due(line, FULL).counts(14, 0, 0, 0, 0, 0, 0, 0).due("new Z", UNKNOWN);
            Tester.same("cls(13, 0)", full.cls(13, 0), 0);
            Tester.same("cls(14, 0)", full.cls(14, 0), UNKNOWN);
            full.due(line, FULL).due("field C13.f I", 0).due("allow C13", 0).due("cast C13", 1);
        }
    }

    private static void inThisOrder() {
        Tester.sentence("then, in this order, UNKNOWN, EXISTS, KIND, FULL, what is named there");
        for (int classes : new int[] {5, 13, 14}) {
            int ready = classes == 14 ? FULL : classes;
            for (String verb : new String[] {"class", "interface"}) {
                String above = verb.equals("class") ? "Object " : "";
                Tester tester = filled(classes);
                tester.due(verb + " A : " + above + "X", UNKNOWN); // EXISTS too
                tester.due(verb + " Z : " + above + "A X", UNKNOWN); // KIND too
                tester.due(verb + " Z : " + above + "X X", UNKNOWN); // the same twice
                tester.due(verb + " A : " + above + "A X", UNKNOWN); // all of them
                tester.due(verb + " A : " + above + "A", EXISTS); // KIND too
                tester.due(verb + " A : " + above + "I I", EXISTS);
                tester.due(verb + " Z : " + above + "A", KIND);
                tester.due(verb + " Z : " + above + "I I", KIND);
                tester.due(verb + " A : " + above + "A *", SYNTAX);
                tester.due(verb + " Z : " + above + "I J", ready);
            }
            filled(classes).due("class A : I", EXISTS).due("class Z : I X", UNKNOWN).due("class A : X", UNKNOWN).due("class Z : I", KIND);
        }
    }

    private static void isBelow() {
        Tester.sentence("c is BELOW d if c is d, or what is ABOVE c, or an INTERFACE that c has, is BELOW d.");
        Tester tester = new Tester().given("interface I", "interface J", "interface K : I", "interface L : J K", "class A : Object L",
                "class B : A", "class C : B I", "class D : Budget J K");
        String[] below = {
            "1.........", // Object
            "11........", // Budget
            "1.1.......", // I
            "1..1......", // J
            "1.1.1.....", // K: I
            "1.1111....", // L: J K
            "1.11111...", // A: L
            "1.111111..", // B, below A
            "1.1111111.", // C, below B
            "11111....1", // D, below Budget: J K
        };
        for (int c = 0; c < below.length; c++) {
            for (int d = 0; d < below.length; d++) {
                Tester.same("below(" + c + ", " + d + ")", tester.below(c, d), below[c].charAt(d) == '1' ? 1 : 0);
            }
        }
    }

    private static void belowTheWholeWay() {
        Tester.sentence("or what is ABOVE c, or an INTERFACE that c has, is BELOW d.");
        Tester chain = new Tester().given("class C2 : Budget");
        Tester faces = new Tester().given("interface C2");
        for (int c = 3; c < 14; c++) {
            chain.given("class C" + c + " : C" + (c - 1));
            faces.given("interface C" + c + " : C" + (c - 1));
        }
        for (int c = 0; c < 14; c++) {
            for (int d = 0; d < 14; d++) {
                Tester.same("below(" + c + ", " + d + ") in a chain", chain.below(c, d), d <= c ? 1 : 0);
                boolean isBelow = d == 0 || d == c || d >= 2 && d <= c;
                Tester.same("below(" + c + ", " + d + ") of interfaces", faces.below(c, d), isBelow ? 1 : 0);
            }
        }
        chain.due("catch C13", PolicyDesk.FORBIDDEN);
    }
}
