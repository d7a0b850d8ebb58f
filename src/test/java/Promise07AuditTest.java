public final class Promise07AuditTest {
    private static final int UNKNOWN = PolicyDesk.UNKNOWN;

    public static void main(String[] args) {
        everyOutcome();
        aStandInOfNumberZero();
        theLatestTwelve();
        theLongestText();
        Tester.end();
    }

    private static void everyOutcome() {
        Tester tester = new Tester();
        last(tester, "new X", "0 new X unknown");
        last(tester, "get Object.f I", "1 get Object.f I unknown");
        tester.given("interface I", "method I.m (I)V", "method I.s ()V s", "shim I.m I.s", "deny I");
        last(tester, "new I", "2 new I kind");
        last(tester, "catch Object", "3 catch Object forbidden");
        last(tester, "cast I", "4 cast I denied");
        last(tester, "cast Object", "5 cast Object denied");
        last(tester, "call I.m (I)V", "6 call I.m (I)V shim 1");
        tester.given("allow Object");
        last(tester, "new Object", "7 new Object ok 1");
        tester.given("cost Object 120");
        last(tester, "new Object", "8 new Object ok 120");
        tester.given("cost Object 0");
        last(tester, "new Object", "9 new Object ok 0");
        last(tester, "cast Object", "10 cast Object ok 0");
        tester.due("new *", PolicyDesk.SYNTAX).due("class I", PolicyDesk.EXISTS);
        Tester.same("SYNTAX and what does not ask is not written", tester.audit(0), "10 cast Object ok 0");
        Tester.same("the one before", tester.audit(1), "9 new Object ok 0");
    }

    private static void aStandInOfNumberZero() {
        Tester tester = new Tester().given("method Object.m ()V s", "shim ** Object.m");
        last(tester, "call Budget.m ()V", "0 call Budget.m ()V shim 0");
    }

    private static void last(Tester tester, String line, String text) {
        tester.say(line);
        Tester.same("audit(0, ..)", tester.audit(0), text);
        for (int i : new int[] {-1, text.length(), text.length() + 1, Integer.MAX_VALUE, Integer.MIN_VALUE}) {
            Tester.same("audit(0, " + i + ")", tester.audit(0, i), UNKNOWN);
        }
    }

    private static void theLatestTwelve() {
        Tester tester = new Tester();
        for (int asked = 1; asked <= 120; asked++) {
            tester.say(asked % 2 == 0 ? "new Object" : "cast Budgets");
            for (int k = 0; k < 14; k++) {
                int number = asked - 1 - k;
                String rest = number % 2 == 0 ? " cast Budgets unknown" : " new Object denied";
                Tester.same("audit(" + k + ", ..)", tester.audit(k), number < 0 || k >= 12 ? null : number + rest);
            }
        }
        for (int k : new int[] {-1, 12, Integer.MAX_VALUE, Integer.MIN_VALUE}) {
            Tester.same("audit(" + k + ", 0)", tester.audit(k, 0), UNKNOWN);
        }
    }

    private static void theLongestText() {
        Tester tester = new Tester();
        for (int i = 0; i < 100; i++) {
            tester.say("new X");
        }
        String line = "call Object.m (IIIIIIIIIIIIIIIIIIIIIIIIIIIIIIIIIIIIIIIIIIIII)".substring(0, 58) + ")V";
        Tester.same("letters", line.length(), 60);
        last(tester, line, "100 " + line + " unknown");
        last(tester, "catch Object", "101 catch Object forbidden");
    }
}
