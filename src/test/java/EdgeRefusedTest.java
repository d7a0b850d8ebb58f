/** What is refused changes nothing: not what can be seen, not what is answered afterwards. */
public final class EdgeRefusedTest {
    private static final int SYNTAX = PolicyDesk.SYNTAX;
    private static final int UNKNOWN = PolicyDesk.UNKNOWN;
    private static final int EXISTS = PolicyDesk.EXISTS;
    private static final int KIND = PolicyDesk.KIND;
    private static final int FULL = PolicyDesk.FULL;

    public static void main(String[] args) {
        refusedAsSyntax();
        refusedAsUnknown();
        refusedAsExists();
        refusedAsKind();
        refusedAsFull();
        looksChangeNothing();
        Tester.end();
    }

    private static Tester ready() {
        return new Tester().given("interface I", "class A : Object I", "class p/B : A", "method A.s ()V s", "method A.m (I)V", "field I.f I",
                "field A.g J ns", "allow **", "deny p/B", "cost A 5", "cost A.m 7", "shim A.m A.s", "new A", "call p/B.m (I)V", "get A.f I")
                .due("new p/B", PolicyDesk.DENIED).due("new I", KIND);
    }

    /** What a desk answers from now on, so that the RULES, which can't be looked at, are seen too. */
    private static String answers(Tester tester) {
        StringBuilder answers = new StringBuilder(tester.state());
        for (String line : new String[] {"new Object", "new A", "new p/B", "cast I", "catch A", "catch p/B", "get A.f I", "get p/B.g J", "call A.s ()V",
            "call A.m (I)V", "call p/B.s ()V", "new Z", "get A.z I", "call A.z ()V", "class Z0", "field A.z0 I", "allow Z0"}) {
            answers.append("\n[").append(line).append("] ").append(tester.say(line));
        }
        return answers.append('\n').append(tester.state()).toString();
    }

    private static void refused(Tester before, int answer, String... lines) {
        for (String line : lines) {
            Tester tester = before.copy().due(line, answer);
            // A LINE that is SYNTAX is counted; a desk that was told another one has the same count.
            Tester other = answer == SYNTAX ? before.copy().due("-", SYNTAX) : before.copy();
            Tester.same("what is seen behind [" + line + "]", answers(tester), answers(other));
        }
    }

    private static void refusedAsSyntax() {
        Tester.sentence("WORDS too few or too many, and what is not as said are SYNTAX; ... nothing changes then");
        refused(ready(), SYNTAX, "", "foo", "class", "class Z :", "class Z : A I I I", "class a.b", "class Z : A *", "interface", "interface Z : I I I",
                "field A.z", "field A.z V", "field A.z I x", "field A.z I ss", "method A.z", "method A.z ()", "method A.z ()V nn", "allow", "allow *",
                "allow ** 1", "deny a/", "cost **", "cost ** 01", "cost ** 1000", "cost * 1", "shim **", "shim ** A", "shim * A.s", "shim ** A.s s",
                "new", "new *", "new A A", "cast A.f", "catch", "get A.f", "get A.f V", "call A.m", "call A.m ()", "call A.m (I)V s");
    }

    private static void refusedAsUnknown() {
        Tester.sentence("(all UNKNOWN if not there; ... nothing changes then");
        refused(ready(), UNKNOWN, "class Z : X", "class Z : A X", "class Z : A I X", "interface Z : X", "interface Z : I X", "field X.z I", "method X.z ()V",
                "method X.finalize ()V", "shim ** X.s", "shim ** A.x", "shim ** A.g", "shim ** p/B.s");
    }

    private static void refusedAsExists() {
        Tester.sentence("a class (EXISTS), ... nothing changes then");
        refused(ready(), EXISTS, "class A", "class A : p/B", "class I", "interface I", "interface A : I", "class Object", "class Budget : A", "field I.f I",
                "field I.f I sn", "field A.g J", "method A.s ()V", "method A.s ()V n", "method A.m (I)V s");
    }

    private static void refusedAsKind() {
        Tester.sentence("KIND if the one ABOVE is an INTERFACE, ... nothing changes then");
        refused(ready(), KIND, "class Z : I", "class Z : A A", "class Z : A I A", "class Z : A I I", "interface Z : A", "interface Z : I I",
                "method A.finalize ()V", "method p/B.finalize ()V s", "shim ** A.m");
    }

    private static void refusedAsFull() {
        Tester.sentence("FULL, what is named there; nothing changes then");
        Tester classes = ready();
        for (int c = 5; c < 14; c++) {
            classes.due("class C" + c, c);
        }
        refused(classes, FULL, "class Z", "class Z : A", "class Z : A I", "interface Z", "interface Z : I");
        Tester members = ready();
        for (int m = 4; m < 24; m++) {
            members.due("field A.f" + m + " I", m);
        }
        refused(members, FULL, "field A.z I", "field p/B.f I", "method A.z ()V", "method p/B.s ()V s", "method p/B.m (I)V");
        Tester rules = ready();
        for (int r = 5; r < 24; r++) {
            rules.due("cost X " + r, r);
        }
        refused(rules, FULL, "allow p/B", "deny **", "deny A", "cost A 9", "cost ** 9", "shim ** A.s", "shim A.s A.s");
    }

    private static void looksChangeNothing() {
        Tester.sentence("Nothing is promised beyond the answers and state changes described above");
        int[] numbers = {-1, 0, 1, 2, 5, 14, 24, Integer.MAX_VALUE, Integer.MIN_VALUE};
        Tester tester = ready().type("new");
        String before = tester.state();
        for (int a : numbers) {
            for (int b : numbers) {
                tester.cls(a, b);
                tester.member(a, b);
                tester.audit(a, b);
                tester.below(a, b);
            }
            tester.count(a);
            tester.total();
        }
        Tester.same("what is seen behind looks", tester.state(), before);
        Tester.same("the LINE", tester.type(" A").line(), 5);
    }
}
