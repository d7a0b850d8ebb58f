/** The edges of RULES: how they are declared, and how many there are. */
public final class EdgeRulesTest {
    private static final int SYNTAX = PolicyDesk.SYNTAX;
    private static final int UNKNOWN = PolicyDesk.UNKNOWN;
    private static final int KIND = PolicyDesk.KIND;
    private static final int FULL = PolicyDesk.FULL;
    private static final int SHIM = PolicyDesk.SHIM;

    public static void main(String[] args) {
        wordsOfARule();
        aPatternNeedsNoClass();
        costs();
        costsThatAreNone();
        wordsOfAShim();
        noSuchClassOrMethod();
        theFirstMethod();
        notStatic();
        twentyFourRules();
        inThisOrder();
        Tester.end();
    }

    private static Tester ready() {
        return new Tester().given("class A", "class B : A", "method A.s ()V s", "method A.m ()V", "field A.f I s"); // 2, 3
    }

    private static void wordsOfARule() {
        Tester.sentence("allow PATTERN, deny PATTERN, cost PATTERN n");
        for (String line : new String[] {"allow", "allow ** **", "allow A B", "allow ** 1", "allow A.m ()V", "deny", "deny ** **", "deny A B",
            "deny ** 1", "cost", "cost **", "cost 1", "cost ** 1 1", "cost 1 **", "cost ** **", "cost ** 1 A.s", "Allow **", "allows **",
            "allo **", "Deny **", "denys **", "den **", "Cost ** 1", "costs ** 1", "cos ** 1", "allow : **", "cost ** : 1"}) {
            ready().due(line, SYNTAX).counts(4, 3, 0, 0, 0, 1, 0, 0);
        }
        ready().due("allow **", 0).due("deny **", 1).due("cost ** 1", 2).counts(4, 3, 3, 0, 0, 0, 0, 0);
    }

    private static void aPatternNeedsNoClass() {
        Tester.sentence("a RULE: its number.");
        ready().due("allow X", 0).due("deny X.m", 1).due("cost X/** 5", 2).due("shim X/*.m A.s", 3).due("allow X", 4)
                .due("allow X", 5).due("deny X", 6).counts(4, 3, 7, 0, 0, 0, 0, 0).due("new X", UNKNOWN).due("class X", 4)
                .due("new X", PolicyDesk.DENIED).due("allow X", 7).due("new X", 1);
    }

    private static void costs() {
        Tester.sentence("(n 0..999, digits, no 0 in front of others)");
        for (int from = 0; from < 1000; from += 20) {
            Tester tester = new Tester().due("allow **", 0);
            for (int n = from; n < from + 20; n++) {
                tester.due("cost ** " + n, n - from + 1).due("new Object", n);
            }
        }
        for (int n = 1000; n <= 1100; n++) {
            new Tester().due("cost ** " + n, SYNTAX);
        }
    }

    private static void costsThatAreNone() {
        Tester.sentence("(n 0..999, digits, no 0 in front of others)");
        for (String n : new String[] {"00", "000", "0000", "01", "09", "001", "010", "0999", "00999", "-0", "-1", "+0", "+1", "1.", ".1",
            "1.0", "1e2", "0x1", "1_0", "1L", "9999", "10000", "2147483648", "4294967296", "18446744073709551616", "n", "a", "**", "1,0"}) {
            new Tester().due("cost ** " + n, SYNTAX).counts(2, 0, 0, 0, 0, 1, 0, 0);
        }
        for (char c = 32; c <= 126; c++) {
            boolean isDigit = c >= '0' && c <= '9';
            new Tester().due("cost ** " + c, isDigit ? 0 : SYNTAX);
            new Tester().due("cost ** 1" + c, isDigit ? 0 : SYNTAX);
            new Tester().due("cost ** 12" + c, isDigit ? 0 : SYNTAX);
            new Tester().due("cost ** " + c + "5", isDigit && c != '0' ? 0 : SYNTAX);
            new Tester().due("cost ** 9" + c + "9", isDigit ? 0 : SYNTAX);
        }
    }

    private static void wordsOfAShim() {
        Tester.sentence("shim PATTERN MEMBER");
        for (String line : new String[] {"shim", "shim **", "shim A.s", "shim ** A", "shim ** A.*", "shim ** **", "shim ** A.s ()V", "shim ** A.s s",
            "shim A.s **", "shim ** : A.s", "Shim ** A.s", "shims ** A.s", "shi ** A.s", "shim ** A/*.s", "shim ** A.s 1"}) {
            ready().due(line, SYNTAX).counts(4, 3, 0, 0, 0, 1, 0, 0);
        }
        ready().due("shim ** A.s", 0).counts(4, 3, 1, 0, 0, 0, 0, 0);
    }

    private static void noSuchClassOrMethod() {
        Tester.sentence("(UNKNOWN if there is no such class or method; KIND if it is not STATIC)");
        for (String target : new String[] {"X.s", "a.s", "A.x", "A.S", "A.ss", "A.f", "B.s", "Object.s", "A/A.s"}) {
            ready().due("shim ** " + target, UNKNOWN).counts(4, 3, 0, 0, 0, 0, 0, 0).due("call A.s ()V", PolicyDesk.DENIED);
        }
        ready().due("shim ** B.s", UNKNOWN).due("method B.s (I)I s", 3).due("shim ** B.s", 0).due("call A.m ()V", SHIM + 3);
    }

    private static void theFirstMethod() {
        Tester.sentence("leads to the first METHOD of that class and name");
        Tester tester = new Tester().given("class A", "class B : A", "field A.s I s", "method B.s ()V s", "method Object.s ()V s",
                "method A.t ()V s", "method A.s (I)V s", "method A.s ()V", "method A.s (J)V s");
        tester.due("shim ** A.s", 0).due("call A.t ()V", SHIM + 4).due("shim ** B.s", 1).due("call A.t ()V", SHIM + 1)
                .due("shim ** Object.s", 2).due("call A.t ()V", SHIM + 2).due("shim ** A.t", 3).due("call A.t ()V", SHIM + 3);
    }

    private static void notStatic() {
        Tester.sentence("KIND if it is not STATIC");
        String[] marks = {"", " n", " s", " sn", " ns"};
        for (String mark : marks) {
            boolean isStatic = mark.contains("s");
            new Tester().given("method Object.a ()V" + mark).due("shim ** Object.a", isStatic ? 0 : KIND)
                    .counts(2, 1, isStatic ? 1 : 0, 0, 0, 0, 0, 0);
            // The first one alone tells.
            new Tester().given("method Object.a (I)V" + mark, "method Object.a ()V s").due("shim ** Object.a", isStatic ? 0 : KIND);
            new Tester().given("method Object.a (I)V" + mark, "method Object.a ()V").due("shim ** Object.a", isStatic ? 0 : KIND);
            new Tester().given("field Object.a I" + mark, "method Object.a ()V s").due("shim ** Object.a", 0);
            new Tester().given("field Object.a I" + mark, "method Object.a ()V n").due("shim ** Object.a", KIND);
        }
    }

    /** A desk with that many RULES, all of one kind (0 to 3) or of all kinds in turn (4). */
    private static Tester filled(int rules, int kind) {
        String[] lines = {"allow X", "deny X", "cost X 5", "shim X A.s"};
        Tester tester = ready();
        for (int number = 0; number < rules; number++) {
            tester.due(lines[kind < 4 ? kind : number % 4], number);
        }
        return tester;
    }

    private static void twentyFourRules() {
        Tester.sentence("(FULL: 24 RULES.)");
        for (int kind = 0; kind <= 4; kind++) {
            for (String line : new String[] {"allow **", "deny **", "cost ** 7", "shim ** A.s", "allow X", "deny A.m"}) {
                filled(23, kind).due(line, 23).counts(4, 3, 24, 0, 0, 0, 0, 0).due(line, FULL);
                filled(24, kind).due(line, FULL).due(line, FULL).counts(4, 3, 24, 0, 0, 0, 0, 0).due("class C", 4).due("field C.f I", 3);
            }
        }
        filled(23, 4).due("allow **", 23).due("deny **", FULL).due("cost ** 7", FULL).due("shim ** A.s", FULL).due("new A", 1)
                .due("call A.m ()V", 1);
        filled(22, 4).due("allow **", 22).due("cost ** 7", 23).due("deny A", FULL).due("cost A 9", FULL).due("new A", 7);
        filled(23, 4).due("shim ** A.s", 23).due("allow **", FULL).due("call A.m ()V", SHIM).due("new A", PolicyDesk.DENIED);
    }

    private static void inThisOrder() {
        Tester.sentence("then, in this order, UNKNOWN, EXISTS, KIND, FULL, what is named there");
        for (int rules : new int[] {1, 23, 24}) {
            filled(rules, 4).due("shim ** X.s", UNKNOWN).due("shim ** A.x", UNKNOWN).due("shim ** A.m", KIND).due("shim * A.s", SYNTAX)
                    .due("shim * X.s", SYNTAX).due("cost ** 1000", SYNTAX).due("allow *", SYNTAX).due("shim ** A.s", rules == 24 ? FULL : rules);
        }
    }
}
