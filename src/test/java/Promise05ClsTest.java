public final class Promise05ClsTest {
    private static final int UNKNOWN = PolicyDesk.UNKNOWN;

    public static void main(String[] args) {
        Tester desk = new Tester().given("interface I", "interface p/Jay : I", "class A : Budget p/Jay",
                "class some/long/Name/of/24ab : A p/Jay I", "interface K : I p/Jay", "field A.f I", "method A.m ()V",
                "field A.f J", "method I.m ()V");
        row(desk, 0, -1, 0, 0, UNKNOWN, UNKNOWN, 0, 6);
        row(desk, 1, 0, 0, 0, UNKNOWN, UNKNOWN, 0, 6);
        row(desk, 2, 0, 1, 0, UNKNOWN, UNKNOWN, 1, 1);
        row(desk, 3, 0, 1, 1, 2, UNKNOWN, 0, 5);
        row(desk, 4, 1, 0, 1, 3, UNKNOWN, 3, 1);
        row(desk, 5, 4, 0, 2, 3, 2, 0, 22);
        row(desk, 6, 0, 1, 2, 2, 3, 0, 1);
        for (int c : new int[] {-1, 7, 13, 14, 15, Integer.MAX_VALUE, Integer.MIN_VALUE}) {
            row(desk, c, UNKNOWN, UNKNOWN, UNKNOWN, UNKNOWN, UNKNOWN, UNKNOWN, UNKNOWN);
        }
        for (int what : new int[] {-1, 7, 8, Integer.MAX_VALUE, Integer.MIN_VALUE}) {
            Tester.same("cls(0, " + what + ")", desk.cls(0, what), UNKNOWN);
        }
        Tester.end();
    }

    private static void row(Tester desk, int c, int... answers) {
        for (int what = 0; what < answers.length; what++) {
            Tester.same("cls(" + c + ", " + what + ")", desk.cls(c, what), answers[what]);
        }
    }
}
