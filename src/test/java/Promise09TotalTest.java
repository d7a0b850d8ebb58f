public final class Promise09TotalTest {
    public static void main(String[] args) {
        Tester tester = new Tester().given("class A", "interface I", "method A.m ()V", "method A.s ()V s", "field A.f I");
        after(tester, "new A", 0); // denied
        tester.given("allow **");
        after(tester, "new A", 1);
        after(tester, "get A.f I", 2);
        tester.given("cost A 999", "cost A.m 0");
        after(tester, "new A", 1001);
        after(tester, "call A.m ()V", 1001);
        after(tester, "call A.s ()V", 2000);
        after(tester, "cast Object", 2001);
        tester.given("shim A.m A.s");
        after(tester, "call A.m ()V", 2002);
        after(tester, "new I", 2002);
        after(tester, "catch Budget", 2002);
        after(tester, "new X", 2002);
        after(tester, "new *", 2002);
        after(tester, "class A", 2002);
        after(tester, "class B", 2002);
        for (int i = 1; i <= 100; i++) {
            after(tester, "cast A", 2002 + 999L * i);
        }
        Tester first = new Tester().given("method Object.m ()V s", "shim ** Object.m");
        after(first, "call Object.m ()V", 1); // SHIM and 0: the least of its answers
        after(first, "call Budget.m ()V", 2);
        Tester.end();
    }

    private static void after(Tester tester, String line, long total) {
        tester.say(line);
        Tester.same("total after [" + line + "]", tester.total(), total);
    }
}
