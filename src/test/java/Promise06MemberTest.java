public final class Promise06MemberTest {
    private static final int UNKNOWN = PolicyDesk.UNKNOWN;

    public static void main(String[] args) {
        Tester desk = new Tester().given("class p/A", "field p/A.f I", "method p/A.long_name12 (I)V s",
                "method Object.mm ()V n", "field Budget.$ LObject; ns", "method p/A.f ()V sn");
        row(desk, 0, 2, 0, 0, 1);
        row(desk, 1, 2, 1, 1, 11);
        row(desk, 2, 0, 1, 2, 2);
        row(desk, 3, 1, 0, 3, 1);
        row(desk, 4, 2, 1, 3, 1);
        for (int m : new int[] {-1, 5, 23, 24, 25, Integer.MAX_VALUE, Integer.MIN_VALUE}) {
            row(desk, m, UNKNOWN, UNKNOWN, UNKNOWN, UNKNOWN);
        }
        for (int what : new int[] {-1, 4, 5, Integer.MAX_VALUE, Integer.MIN_VALUE}) {
            Tester.same("member(0, " + what + ")", desk.member(0, what), UNKNOWN);
        }
        Tester.end();
    }

    private static void row(Tester desk, int m, int... answers) {
        for (int what = 0; what < answers.length; what++) {
            Tester.same("member(" + m + ", " + what + ")", desk.member(m, what), answers[what]);
        }
    }
}
