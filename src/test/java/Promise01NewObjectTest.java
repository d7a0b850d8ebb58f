public final class Promise01NewObjectTest {
    public static void main(String[] args) {
        PolicyDesk desk = new PolicyDesk();
        Tester.same("classes", desk.count(0), 2);
        for (int what = 1; what <= 7; what++) {
            Tester.same("count(" + what + ")", desk.count(what), 0);
        }
        Tester.same("above Object", desk.cls(0, 0), -1);
        Tester.same("above Budget", desk.cls(1, 0), 0);
        Tester.same("letters of Object", desk.cls(0, 6), 6);
        Tester.same("letters of Budget", desk.cls(1, 6), 6);
        Tester.same("no third class", desk.cls(2, 0), PolicyDesk.UNKNOWN);
        Tester.same("no member", desk.member(0, 0), PolicyDesk.UNKNOWN);
        Tester.same("no audit", desk.audit(0, 0), PolicyDesk.UNKNOWN);
        Tester.same("total", desk.total(), 0);
        Tester.same("the line is empty", desk.drop(), 0);

        new Tester().due("new Object", PolicyDesk.DENIED).due("class Object", PolicyDesk.EXISTS)
                .due("class Budget", PolicyDesk.EXISTS).due("class A", 2);
        twoDesksShareNothing();
        Tester.end();
    }

    private static void twoDesksShareNothing() {
        Tester one = new Tester().given("class A", "field A.f I", "allow **", "new A").type("cl");
        Tester other = new Tester();
        Tester.same("classes of the other", other.count(0), 2);
        Tester.same("letters of the other", other.count(6), 0);
        Tester.same("rules of the other", other.count(2), 0);
        Tester.same("asks of the other", other.count(3), 0);
        Tester.same("letters of the one", one.count(6), 2);
    }
}
