/** Promise 3: the lines that declare classes, members and rules. */
public final class Promise03DeclareTest {
    private static final int UNKNOWN = PolicyDesk.UNKNOWN;
    private static final int EXISTS = PolicyDesk.EXISTS;
    private static final int KIND = PolicyDesk.KIND;
    private static final int FULL = PolicyDesk.FULL;

    public static void main(String[] args) {
        classes();
        fourteenClasses();
        members();
        twentyFourMembers();
        shims();
        twentyFourRules();
        Tester.end();
    }

    private static void classes() {
        Tester tester = new Tester().given("interface I", "interface J", "class A");
        tester.due("class B : X", UNKNOWN).due("class B : A X", UNKNOWN).due("class B : A I X", UNKNOWN)
                .due("class B : X I J", UNKNOWN).due("class B : B", UNKNOWN).due("interface K : X", UNKNOWN)
                .due("interface K : I X", UNKNOWN).due("interface K : K", UNKNOWN).due("class B : X X X", UNKNOWN);
        tester.due("class A : X", UNKNOWN).due("class A : I X", UNKNOWN).due("interface A : A X", UNKNOWN);
        tester.due("class A", EXISTS).due("interface A", EXISTS).due("class I", EXISTS).due("class A : I", EXISTS)
                .due("class A : A", EXISTS).due("interface A : A A", EXISTS).due("class A : Object I I", EXISTS);
        tester.due("class B : I", KIND).due("class B : A A", KIND).due("class B : A I A", KIND)
                .due("class B : A I I", KIND).due("class B : A Object", KIND).due("class B : A Budget I", KIND)
                .due("interface K : A", KIND).due("interface K : I A", KIND).due("interface K : I I", KIND)
                .due("interface K : Object", KIND).due("class B : I J I", KIND);
        tester.due("class B : A J I", 5).due("class a", 6).due("class A/A", 7).due("class C : Budget", 8);
        Tester.same("classes", tester.count(0), 9);
        Tester.same("above B", tester.cls(5, 0), 4);
        Tester.same("first of B", tester.cls(5, 3), 3);
        Tester.same("second of B", tester.cls(5, 4), 2);
    }

    private static void fourteenClasses() {
        Tester tester = new Tester().given("interface I");
        for (int number = 3; number < 14; number++) {
            tester.due("class C" + number, number);
        }
        tester.due("class D", FULL).due("interface D", FULL).due("class D : X", UNKNOWN).due("class C3", EXISTS)
                .due("class D : I", KIND).due("interface D : I", FULL).due("interface D : C3", KIND);
        Tester.same("classes", tester.count(0), 14);
        Tester.same("no class 14", tester.cls(14, 0), UNKNOWN);
        tester.due("field C13.f I", 0);
    }

    private static void members() {
        Tester tester = new Tester().given("class a/A", "class B : a/A");
        tester.due("field X.f I", UNKNOWN).due("method X.m ()V", UNKNOWN).due("field A.f I", UNKNOWN)
                .due("method X.finalize ()V", UNKNOWN);
        tester.due("field a/A.f I", 0).due("field a/A.f J", 1).due("method a/A.f ()I", 2).due("field a/A.F I", 3)
                .due("method a/A.f (I)I", 4).due("field B.f I", 5);
        tester.due("field a/A.f I", EXISTS).due("field a/A.f I s", EXISTS).due("method a/A.f ()I n", EXISTS);
        tester.due("method B.finalize ()V", KIND).due("method B.finalize ()V s", KIND)
                .due("method Object.finalize ()V n", KIND);
        tester.due("method B.finalize ()I", 6).due("method B.finalize (I)V", 7).due("field B.finalize I", 8)
                .due("method B.Finalize ()V", 9);
        Tester.same("members", tester.count(1), 10);
        Tester.same("members of a/A", tester.cls(2, 5), 5);
    }

    private static void twentyFourMembers() {
        Tester tester = new Tester();
        for (int number = 0; number < 24; number++) {
            tester.due((number % 2 == 0 ? "field Object.f" + number + " I" : "method Budget.m" + number + " ()V"), number);
        }
        tester.due("field Object.g I", FULL).due("method Object.g ()V", FULL).due("field X.g I", UNKNOWN)
                .due("field Object.f0 I", EXISTS).due("method Object.finalize ()V", KIND);
        Tester.same("members", tester.count(1), 24);
        Tester.same("no member 24", tester.member(24, 0), UNKNOWN);
    }

    private static void shims() {
        Tester tester = new Tester().given("class A", "class B : A", "field A.m I s", "method A.m (I)V", "method A.m ()V s",
                "method A.s (I)V sn", "method A.s ()V", "field A.f I s", "method A.n ()V n");
        tester.due("shim ** X.m", UNKNOWN).due("shim ** A.x", UNKNOWN).due("shim ** A.f", UNKNOWN)
                .due("shim ** B.s", UNKNOWN).due("shim ** A.m", KIND).due("shim ** A.n", KIND);
        tester.due("shim no/such/**.m A.s", 0).due("shim A A.s", 1).due("shim ** A.s", 2);
        Tester.same("rules", tester.count(2), 3);
    }

    private static void twentyFourRules() {
        Tester tester = new Tester().given("method Object.s ()V s", "method Object.m ()V");
        String[] rules = {"allow **", "deny no/such", "cost a/* 5", "shim ** Object.s"};
        for (int number = 0; number < 24; number++) {
            tester.due(rules[number % 4], number);
        }
        tester.due("allow **", FULL).due("deny **", FULL).due("cost ** 1", FULL).due("shim ** Object.s", FULL)
                .due("shim ** X.s", UNKNOWN).due("shim ** Object.x", UNKNOWN).due("shim ** Object.m", KIND)
                .due("cost ** 01", PolicyDesk.SYNTAX);
        Tester.same("rules", tester.count(2), 24);
        tester.due("new Object", 1);
    }
}
