/** The edges of ASKING: its words, what is UNKNOWN, where a member is FOUND, and KIND. */
public final class EdgeAskTest {
    private static final int SYNTAX = PolicyDesk.SYNTAX;
    private static final int UNKNOWN = PolicyDesk.UNKNOWN;
    private static final int KIND = PolicyDesk.KIND;
    private static final int DENIED = PolicyDesk.DENIED;

    public static void main(String[] args) {
        wordsOfAnAsk();
        noSuchClass();
        notFound();
        fieldInItsClass();
        fieldInInterfaces();
        fieldInWhatIsAbove();
        methodInItsClassAndAbove();
        methodInInterfaces();
        methodInInterfacesOfWhatIsAbove();
        inOrderWithThoseThatTheyHave();
        membersOfAnInterface();
        newOfAnInterface();
        Tester.end();
    }

    private static void wordsOfAnAsk() {
        Tester.sentence("new NAME, cast NAME, catch NAME; get MEMBER TYPE, call MEMBER SHAPE: they ASK.");
        for (String line : new String[] {"new", "new Object Object", "new Object I", "new Object.f", "new **", "new Object/*", "cast",
            "cast Object Budget", "cast Object.f", "catch", "catch Object Budget", "catch Object.f", "get", "get Object.f", "get Object I",
            "get I", "get Object.f I s", "get Object.f I I", "get Object.f ()V", "get Object.f V", "get I Object.f", "call", "call Object.m",
            "call Object ()V", "call ()V", "call Object.m ()V s", "call Object.m ()V ()V", "call Object.m I", "call Object.m V",
            "call ()V Object.m", "New Object", "news Object", "ne Object", "Cast Object", "casts Object", "Catch Object", "Get Object.f I",
            "gets Object.f I", "Call Object.m ()V", "calls Object.m ()V", "set Object.f I", "ask Object", "put Object.f I", "throw Object",
            "new : Object", "get Object f I"}) {
            new Tester().given("allow **").due(line, SYNTAX).counts(2, 0, 1, 0, 0, 1, 0, 0);
        }
        Tester tester = new Tester().given("field Object.f I", "method Object.m ()V", "allow **").due("new Object", 1).due("cast Object", 1)
                .due("catch Object", PolicyDesk.FORBIDDEN).due("get Object.f I", 1).due("call Object.m ()V", 1);
        tester.counts(2, 2, 1, 5, 4, 0, 0, 4);
    }

    private static void noSuchClass() {
        Tester.sentence("UNKNOWN if there is no such class");
        for (String name : new String[] {"X", "object", "Object/A", "Objec", "Objects", "p", "A", "P/A"}) {
            new Tester().given("class p/A", "allow **").due("new " + name, UNKNOWN).due("cast " + name, UNKNOWN)
                    .due("catch " + name, UNKNOWN).due("get " + name + ".f I", UNKNOWN).due("call " + name + ".m ()V", UNKNOWN)
                    .counts(3, 0, 1, 5, 0, 0, 0, 0).due("new p/A", 1).due("cast p/A", 1).due("catch p/A", 1);
        }
        new Tester().due("new X", UNKNOWN).due("class X", 2).due("new X", DENIED);
    }

    private static void notFound() {
        Tester.sentence("or the member is not FOUND.");
        Tester tester = new Tester().given("class A", "class B : A", "class C : B", "interface I", "field B.f I", "method B.m (I)V", "allow **",
                "cost ** 5");
        tester.due("get B.f I", 5).due("get C.f I", 5).due("call B.m (I)V", 5).due("call C.m (I)V", 5);
        tester.due("get A.f I", UNKNOWN).due("get Object.f I", UNKNOWN).due("get I.f I", UNKNOWN).due("get B.f J", UNKNOWN)
                .due("get B.f [I", UNKNOWN).due("get B.F I", UNKNOWN).due("get B.ff I", UNKNOWN).due("get B.m I", UNKNOWN);
        tester.due("call A.m (I)V", UNKNOWN).due("call Object.m (I)V", UNKNOWN).due("call I.m (I)V", UNKNOWN).due("call B.m ()V", UNKNOWN)
                .due("call B.m (I)I", UNKNOWN).due("call B.m (II)V", UNKNOWN).due("call B.M (I)V", UNKNOWN).due("call B.f (I)V", UNKNOWN);
        tester.counts(6, 2, 2, 20, 4, 0, 0, 4);
        // A stand-in or a deny answers only for a method that was FOUND.
        new Tester().given("method Object.s ()V s", "shim ** Object.s", "deny **").due("call Object.x ()V", UNKNOWN)
                .due("call Object.s (I)V", UNKNOWN).due("get Object.s I", UNKNOWN).due("call Object.s ()V", PolicyDesk.SHIM);
    }

    /** Classes that each answer with a cost of their own, so that an answer tells where the member was FOUND. */
    private static Tester classes(String... lines) {
        Tester tester = new Tester().given("allow **");
        int cost = 10;
        for (String line : lines) {
            tester.given(line, "cost " + line.split(" ")[1] + " " + cost);
            cost++;
        }
        return tester.given("cost Object 20", "cost Budget 21");
    }

    private static void fieldInItsClass() {
        Tester.sentence("A field is FOUND in its class");
        Tester tester = classes("interface I", "class A", "class B : A I").given("field Object.f I", "field A.f I", "field I.f I", "field B.f I");
        tester.due("get B.f I", 12).due("get A.f I", 11).due("get I.f I", 10).due("get Object.f I", 20).due("get Budget.f I", 20);
    }

    private static void fieldInInterfaces() {
        Tester.sentence("else in the INTERFACES that this has (in order, with those that they have)");
        Tester tester = classes("interface I", "interface J", "class A", "class B : A J I").given("field Object.f I", "field A.f I")
                .due("get B.f I", 12).given("field I.f I").due("get B.f I", 10).given("field J.f I").due("get B.f I", 11).due("get A.f I", 12);
        tester.given("field B.f I").due("get B.f I", 13);
        // of what is ABOVE too, before what is ABOVE that
        classes("interface I", "class A : Object I", "class B : A").given("field Object.f I").due("get B.f I", 20).given("field I.f I")
                .due("get B.f I", 10).given("field A.f I").due("get B.f I", 11);
    }

    private static void fieldInWhatIsAbove() {
        Tester.sentence("else in what is ABOVE.");
        Tester tester = classes("class A", "class B : A", "class C : B").due("get C.f I", UNKNOWN).given("field Object.f I").due("get C.f I", 20)
                .given("field A.f I").due("get C.f I", 10).given("field B.f I").due("get C.f I", 11).given("field C.f I").due("get C.f I", 12);
        tester.due("get B.f I", 11).due("get A.f I", 10).due("get Object.f I", 20);
    }

    private static void methodInItsClassAndAbove() {
        Tester.sentence("A method is FOUND in its class, else in what is ABOVE, and so on");
        Tester tester = classes("interface I", "class A : Object I", "class B : A I", "class C : B I").due("call C.m ()V", UNKNOWN)
                .given("method I.m ()V").due("call C.m ()V", 10).given("method Object.m ()V").due("call C.m ()V", 20)
                .given("method A.m ()V").due("call C.m ()V", 11).given("method B.m ()V").due("call C.m ()V", 12)
                .given("method C.m ()V").due("call C.m ()V", 13);
        tester.due("call B.m ()V", 12).due("call A.m ()V", 11).due("call Object.m ()V", 20).due("call I.m ()V", 10).due("call Budget.m ()V", 20);
    }

    private static void methodInInterfaces() {
        Tester.sentence("else in the INTERFACES (in order, with those that they have) of its class");
        classes("interface I", "interface J", "class A", "class B : A J I").given("method I.m ()V").due("call B.m ()V", 10)
                .given("method J.m ()V").due("call B.m ()V", 11).due("call A.m ()V", UNKNOWN).given("method A.m ()V").due("call B.m ()V", 12);
    }

    private static void methodInInterfacesOfWhatIsAbove() {
        Tester.sentence("of its class, then of what is ABOVE.");
        classes("interface I", "interface J", "interface K", "class A : Object I", "class B : A J", "class C : B K")
                .due("call C.m ()V", UNKNOWN).given("method I.m ()V").due("call C.m ()V", 10).given("method J.m ()V").due("call C.m ()V", 11)
                .given("method K.m ()V").due("call C.m ()V", 12).due("call B.m ()V", 11).due("call A.m ()V", 10);
    }

    private static void inOrderWithThoseThatTheyHave() {
        Tester.sentence("(in order, with those that they have)");
        for (String[] ask : new String[][] {{"field ", " I", "get "}, {"method ", " ()V", "call "}}) {
            // I has K and L, J has M: I, K, L, J, M is the order for A, and J, M, I, K, L that for B.
            Tester tester = classes("interface K", "interface L", "interface M", "interface I : K L", "interface J : M", "class A : Object I J",
                    "class B : Object J I");
            String x = ".x" + ask[1];
            tester.due(ask[2] + "A" + x, UNKNOWN);
            tester.copy().given(ask[0] + "M" + x).due(ask[2] + "A" + x, 12).given(ask[0] + "J" + x).due(ask[2] + "A" + x, 14)
                    .given(ask[0] + "L" + x).due(ask[2] + "A" + x, 11).given(ask[0] + "K" + x).due(ask[2] + "A" + x, 10)
                    .given(ask[0] + "I" + x).due(ask[2] + "A" + x, 13);
            tester.copy().given(ask[0] + "L" + x).due(ask[2] + "B" + x, 11).given(ask[0] + "K" + x).due(ask[2] + "B" + x, 10)
                    .given(ask[0] + "I" + x).due(ask[2] + "B" + x, 13).given(ask[0] + "M" + x).due(ask[2] + "B" + x, 12)
                    .given(ask[0] + "J" + x).due(ask[2] + "B" + x, 14);
            theWholeDepth(ask[0], ask[2], x);
        }
    }

    /** As many INTERFACES, one having the next, as there can be. */
    private static void theWholeDepth(String declare, String ask, String member) {
        Tester tester = new Tester().given("interface C2");
        for (int c = 3; c < 13; c++) {
            tester.given("interface C" + c + " : C" + (c - 1));
        }
        tester.given("class C13 : Budget C12", "allow C2", "cost C2 7").due(ask + "C13" + member, UNKNOWN).given(declare + "C2" + member)
                .due(ask + "C13" + member, 7).due(ask + "C12" + member, 7).due(ask + "C2" + member, 7).due(ask + "Budget" + member, UNKNOWN);
        Tester chain = new Tester().given("class C2");
        for (int c = 3; c < 14; c++) {
            chain.given("class C" + c + " : C" + (c - 1));
        }
        chain.given("allow Object", "cost Object 9", declare + "Object" + member).due(ask + "C13" + member, 9);
    }

    private static void membersOfAnInterface() {
        Tester.sentence("or is an INTERFACE (Object is ABOVE it).");
        classes("interface I", "interface J : I", "class A : Object J").given("field Object.f I", "method Object.m ()V", "field I.f I",
                "method I.m ()V").due("get J.f I", 10).due("call J.m ()V", 20).due("get I.f I", 10).due("call I.m ()V", 10)
                .due("get A.f I", 10).due("call A.m ()V", 20);
        classes("interface I", "interface J : I").given("field Object.f I", "method Object.m ()V").due("get J.f I", 20).due("call J.m ()V", 20);
    }

    private static void newOfAnInterface() {
        Tester.sentence("KIND: new of an INTERFACE.");
        Tester tester = new Tester().given("interface I", "interface J : I", "class A : Object I J", "field I.f I", "method I.m ()V");
        tester.due("new I", KIND).due("new J", KIND).due("new A", DENIED).due("cast I", DENIED).due("catch I", DENIED).due("get I.f I", DENIED)
                .due("call I.m ()V", DENIED);
        tester.given("allow **").due("new I", KIND).due("new J", KIND).due("new A", 1).due("cast I", 1).due("catch J", 1).due("get J.f I", 1)
                .due("call J.m ()V", 1).given("deny I").due("new I", KIND).due("cast I", DENIED);
        tester.counts(5, 2, 2, 16, 5, 0, 0, 6);
    }
}
