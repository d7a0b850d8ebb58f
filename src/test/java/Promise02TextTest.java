public final class Promise02TextTest {
    private static final int SYNTAX = PolicyDesk.SYNTAX;
    private static final int FULL = PolicyDesk.FULL;

    public static void main(String[] args) {
        lettersUpToTheFirstZero();
        lettersThatAreNone();
        sixtyAtMost();
        Tester.end();
    }

    private static void lettersUpToTheFirstZero() {
        PolicyDesk desk = new PolicyDesk();
        Tester.same("three letters", desk.text(Tester.pack("new")), 3);
        Tester.same("eight letters", desk.text(Tester.pack(" Object1")), 11);
        Tester.same("what is behind a 0 does not come", desk.text(0xFF_41_00_41_41L), 13);
        Tester.same("a letter that is none, behind a 0", desk.text(0x1F_7F_00_7EL), 14);
        Tester.same("one letter", desk.text(32), 15);
        Tester.same("count(6)", desk.count(6), 15);

        Tester order = new Tester().type("class Ab");
        Tester.same("the lowest comes first", order.line(), 2);
        order.due("class Ab", PolicyDesk.EXISTS);
    }

    private static void lettersThatAreNone() {
        PolicyDesk desk = new PolicyDesk();
        Tester.same("0", desk.text(0), SYNTAX);
        Tester.same("the lowest is 0", desk.text(0x4100L), SYNTAX);
        Tester.same("31", desk.text(31), SYNTAX);
        Tester.same("127", desk.text(127), SYNTAX);
        Tester.same("128", desk.text(128), SYNTAX);
        Tester.same("255", desk.text(255), SYNTAX);
        Tester.same("the second", desk.text(0x1F41L), SYNTAX);
        Tester.same("the eighth", desk.text(0x8041414141414141L), SYNTAX);
        Tester.same("all bits", desk.text(-1), SYNTAX);
        Tester.same("nothing came", desk.count(6), 0);
        Tester.same("a text is no LINE", desk.count(5), 0);
        Tester.same("32", desk.text(32), 1);
        Tester.same("126", desk.text(126), 2);
    }

    private static void sixtyAtMost() {
        PolicyDesk desk = new PolicyDesk();
        for (int i = 1; i <= 7; i++) {
            Tester.same("eight more", desk.text(Tester.pack("aaaaaaaa")), 8 * i);
        }
        Tester.same("64", desk.text(Tester.pack("aaaaaaaa")), FULL);
        Tester.same("61", desk.text(Tester.pack("aaaaa")), FULL);
        Tester.same("60", desk.text(Tester.pack("aaaa")), 60);
        Tester.same("one more", desk.text('a'), FULL);
        Tester.same("SYNTAX goes before FULL", desk.text(127), SYNTAX);
        Tester.same("SYNTAX goes before FULL", desk.text(0x7F61L), SYNTAX);
        Tester.same("0 on a full line", desk.text(0), SYNTAX);
        Tester.same("still 60", desk.count(6), 60);
        Tester.same("the line", desk.line(), SYNTAX);
        Tester.same("empty again", desk.text('a'), 1);
    }
}
