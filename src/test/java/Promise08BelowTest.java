public final class Promise08BelowTest {
    public static void main(String[] args) {
        Tester desk = new Tester().given("interface I", "interface J", "interface K : I J", "class A : Budget K",
                "class B : A", "class C : Object J");
        String[] below = {
            "1.......", // Object
            "11......", // Budget
            "1.1.....", // I
            "1..1....", // J
            "1.111...", // K
            "111111..", // A
            "1111111.", // B
            "1..1...1", // C
        };
        for (int c = 0; c < below.length; c++) {
            for (int d = 0; d < below.length; d++) {
                Tester.same("below(" + c + ", " + d + ")", desk.below(c, d), below[c].charAt(d) == '1' ? 1 : 0);
            }
        }
        for (int none : new int[] {-1, 8, 13, 14, 31, 32, Integer.MAX_VALUE, Integer.MIN_VALUE}) {
            Tester.same("below(" + none + ", 0)", desk.below(none, 0), PolicyDesk.UNKNOWN);
            Tester.same("below(0, " + none + ")", desk.below(0, none), PolicyDesk.UNKNOWN);
            Tester.same("below(none, none)", desk.below(none, none), PolicyDesk.UNKNOWN);
        }
        chain();
        Tester.end();
    }

    private static void chain() {
        Tester tester = new Tester().given("class C2");
        for (int c = 3; c < 14; c++) {
            tester.given("class C" + c + " : C" + (c - 1));
        }
        for (int c = 2; c < 14; c++) {
            for (int d = 2; d < 14; d++) {
                Tester.same("below in a chain", tester.below(c, d), c >= d ? 1 : 0);
            }
        }
    }
}
