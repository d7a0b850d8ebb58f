public final class Promise04DropTest {
    public static void main(String[] args) {
        Tester tester = new Tester();
        Tester.same("of an empty line", tester.drop(), 0);
        tester.type("class A : X");
        Tester.same("of eleven letters", tester.drop(), 11);
        Tester.same("again", tester.drop(), 0);
        Tester.same("count(6)", tester.count(6), 0);
        tester.due("class B", 2);
        tester.type("class ");
        tester.drop();
        tester.type("C");
        Tester.same("what was dropped is gone", tester.line(), PolicyDesk.SYNTAX);
        tester.type("a".repeat(60));
        Tester.same("of sixty letters", tester.drop(), 60);
        tester.type("z");
        Tester.same("of one letter", tester.drop(), 1);
        Tester.same("nothing else changed", tester.count(0), 3);
        Tester.same("a dropped line is not SYNTAX", tester.count(5), 1);
        Tester.end();
    }
}
