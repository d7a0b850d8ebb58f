public final class Promise10CountTest {
    public static void main(String[] args) {
        Tester tester = new Tester();
        counts(tester, 2, 0, 0, 0, 0, 0, 0, 0);
        tester.given("class A", "interface I");
        counts(tester, 4, 0, 0, 0, 0, 0, 0, 0);
        tester.given("field A.f I", "method A.m ()V n", "method A.s ()V s");
        counts(tester, 4, 3, 0, 0, 0, 0, 0, 0);
        tester.due("new A", PolicyDesk.DENIED); // no rule decided
        counts(tester, 4, 3, 0, 1, 0, 0, 0, 0);
        tester.given("allow **", "cost ** 3");
        counts(tester, 4, 3, 2, 1, 0, 0, 0, 0);
        tester.due("new A", 3); // the allow decided, the cost did not
        counts(tester, 4, 3, 2, 2, 1, 0, 0, 1);
        tester.given("deny I").due("cast I", PolicyDesk.DENIED);
        counts(tester, 4, 3, 3, 3, 1, 0, 0, 2);
        tester.due("call A.m ()V", PolicyDesk.DENIED); // NATIVE: denied by the allow
        counts(tester, 4, 3, 3, 4, 1, 0, 0, 3);
        tester.given("shim A.m A.s").due("call A.m ()V", PolicyDesk.SHIM + 2);
        counts(tester, 4, 3, 4, 5, 2, 0, 0, 4);
        tester.given("cost A.f 0").due("get A.f I", 0);
        counts(tester, 4, 3, 5, 6, 3, 0, 0, 5);
        tester.due("new I", PolicyDesk.KIND).due("new X", PolicyDesk.UNKNOWN).due("catch Object", PolicyDesk.FORBIDDEN)
                .due("get A.x I", PolicyDesk.UNKNOWN);
        counts(tester, 4, 3, 5, 10, 3, 0, 0, 5);
        tester.due("new *", PolicyDesk.SYNTAX).due("", PolicyDesk.SYNTAX).due("foo", PolicyDesk.SYNTAX)
                .due("class I", PolicyDesk.EXISTS).due("class B : X", PolicyDesk.UNKNOWN);
        counts(tester, 4, 3, 5, 10, 3, 3, 0, 5);
        tester.type("class A : Object");
        counts(tester, 4, 3, 5, 10, 3, 3, 16, 5);
        tester.drop();
        counts(tester, 4, 3, 5, 10, 3, 3, 0, 5);
        for (int what : new int[] {-1, 8, 9, Integer.MAX_VALUE, Integer.MIN_VALUE}) {
            Tester.same("count(" + what + ")", tester.count(what), PolicyDesk.SYNTAX);
        }
        Tester.end();
    }

    private static void counts(Tester tester, int... due) {
        for (int what = 0; what < due.length; what++) {
            Tester.same("count(" + what + ")", tester.count(what), due[what]);
        }
    }
}
