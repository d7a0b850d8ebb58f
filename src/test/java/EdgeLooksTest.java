/** The edges of a new object and of the calls that look: cls, member, below, total and count. */
public final class EdgeLooksTest {
    private static final int SYNTAX = PolicyDesk.SYNTAX;
    private static final int UNKNOWN = PolicyDesk.UNKNOWN;
    private static final int[] FAR = {-2, -3, -16, 15, 16, 24, 25, 31, 32, 33, 64, 1 << 30, Integer.MAX_VALUE, Integer.MIN_VALUE};

    public static void main(String[] args) {
        aNewObject();
        classThatIsNone();
        whatOfAClass();
        interfacesOfAClass();
        membersOfAClass();
        lettersOfAClass();
        memberThatIsNone();
        whatOfAMember();
        lettersOfAMember();
        marksOfAMember();
        belowOfNone();
        theTotalIsALong();
        whatOfACount();
        countsFromTheLeastToTheMost();
        asksCounted();
        syntaxCounted();
        decisionsCounted();
        Tester.end();
    }

    private static void aNewObject() {
        Tester.sentence("Object and Budget alone; an empty LINE; an empty AUDIT.");
        Tester tester = new Tester().counts(2, 0, 0, 0, 0, 0, 0, 0);
        int[][] rows = {{-1, 0, 0, UNKNOWN, UNKNOWN, 0, 6}, {0, 0, 0, UNKNOWN, UNKNOWN, 0, 6}};
        for (int c = 0; c < rows.length; c++) {
            for (int what = 0; what < 7; what++) {
                Tester.same("cls(" + c + ", " + what + ")", tester.cls(c, what), rows[c][what]);
            }
        }
        Tester.same("cls(2, 0)", tester.cls(2, 0), UNKNOWN);
        Tester.same("member(0, 0)", tester.member(0, 0), UNKNOWN);
        Tester.same("audit(0, 0)", tester.audit(0, 0), UNKNOWN);
        Tester.same("total()", tester.total(), 0);
        Tester.same("drop()", tester.drop(), 0);
        Tester.same("line()", tester.line(), SYNTAX);
        new Tester().given("class A", "field A.f I", "allow **", "new A").type("abc");
        new Tester().counts(2, 0, 0, 0, 0, 0, 0, 0); // another desk before it leaves nothing behind
    }

    private static void classThatIsNone() {
        Tester.sentence("6: letters of its name. UNKNOWN if there is none, or for others.");
        for (int classes = 2; classes <= 14; classes++) {
            Tester tester = new Tester();
            for (int c = 2; c < classes; c++) {
                tester.due("class C" + c, c);
            }
            for (int what = 0; what <= 6; what++) {
                Tester.same("cls(-1, " + what + ")", tester.cls(-1, what), UNKNOWN);
                Tester.same("cls(" + classes + ", " + what + ")", tester.cls(classes, what), UNKNOWN);
                for (int c : FAR) {
                    Tester.same("cls(" + c + ", " + what + ")", tester.cls(c, what), UNKNOWN);
                }
            }
            Tester.same("the last", tester.cls(classes - 1, 0), 0);
            Tester.same("letters of the last", tester.cls(classes - 1, 6), classes == 2 ? 6 : classes <= 10 ? 2 : 3);
        }
    }

    private static void whatOfAClass() {
        Tester.sentence("UNKNOWN if there is none, or for others.");
        Tester tester = new Tester().given("interface I", "interface J", "class A : Budget I J");
        int[] due = {1, 0, 2, 2, 3, 0, 1};
        for (int what = 0; what < due.length; what++) {
            Tester.same("cls(4, " + what + ")", tester.cls(4, what), due[what]);
        }
        for (int c = -1; c <= 5; c++) {
            Tester.same("cls(" + c + ", -1)", tester.cls(c, -1), UNKNOWN);
            Tester.same("cls(" + c + ", 7)", tester.cls(c, 7), UNKNOWN);
            for (int what : FAR) {
                Tester.same("cls(" + c + ", " + what + ")", tester.cls(c, what), UNKNOWN);
            }
        }
    }

    private static void interfacesOfAClass() {
        Tester.sentence("2: how many INTERFACES it has; 3, 4: these");
        Tester tester = new Tester().given("interface I", "interface J : I", "interface K : J I", "class A : Object K", "class B : A I J", "class C : B");
        int[][] due = {{0, UNKNOWN, UNKNOWN}, {0, UNKNOWN, UNKNOWN}, {0, UNKNOWN, UNKNOWN}, {1, 2, UNKNOWN}, {2, 3, 2}, {1, 4, UNKNOWN}, {2, 2, 3},
            {0, UNKNOWN, UNKNOWN}};
        for (int c = 0; c < due.length; c++) {
            for (int what = 2; what <= 4; what++) {
                Tester.same("cls(" + c + ", " + what + ")", tester.cls(c, what), due[c][what - 2]);
            }
        }
    }

    private static void membersOfAClass() {
        Tester.sentence("5: how many members");
        Tester tester = new Tester().given("class A", "class B : A");
        for (int m = 0; m < 24; m++) {
            Tester.same("members of A", tester.cls(2, 5), m);
            tester.due((m % 2 == 0 ? "field A.f" + m + " I" : "method A.f" + m + " ()V"), m);
        }
        tester.due("field A.g I", PolicyDesk.FULL);
        int[] due = {0, 0, 24, 0};
        for (int c = 0; c < due.length; c++) {
            Tester.same("cls(" + c + ", 5)", tester.cls(c, 5), due[c]);
        }
    }

    private static void lettersOfAClass() {
        Tester.sentence("6: letters of its name.");
        for (int letters = 1; letters <= 24; letters++) {
            Tester tester = new Tester().given("class " + "a".repeat(letters));
            Tester.same("letters", tester.cls(2, 6), letters);
            if (letters >= 3) {
                tester.given("interface a/" + "b".repeat(letters - 2));
                Tester.same("letters, the slash among them", tester.cls(3, 6), letters);
            }
        }
    }

    private static void memberThatIsNone() {
        Tester.sentence("3: letters of its name. UNKNOWN if there is none, or for others.");
        for (int members : new int[] {0, 1, 2, 12, 23, 24}) {
            Tester tester = new Tester();
            for (int m = 0; m < members; m++) {
                tester.due("field Budget.f" + m + " I", m);
            }
            for (int what = 0; what <= 3; what++) {
                Tester.same("member(-1, " + what + ")", tester.member(-1, what), UNKNOWN);
                Tester.same("member(" + members + ", " + what + ")", tester.member(members, what), UNKNOWN);
                for (int m : FAR) {
                    if (m < 0 || m >= members) {
                        Tester.same("member(" + m + ", " + what + ")", tester.member(m, what), UNKNOWN);
                    }
                }
            }
            Tester.same("the last", tester.member(members - 1, 0), members == 0 ? UNKNOWN : 1);
        }
    }

    private static void whatOfAMember() {
        Tester.sentence("Of member m what 0: its class; 1: 0 a field, 1 a method");
        Tester tester = new Tester().given("class A", "field A.f I", "method A.m ()V", "method Object.mm (I)I sn", "field Budget.fff I s");
        int[][] due = {{2, 0, 0, 1}, {2, 1, 0, 1}, {0, 1, 3, 2}, {1, 0, 1, 3}};
        for (int m = 0; m < due.length; m++) {
            for (int what = 0; what < 4; what++) {
                Tester.same("member(" + m + ", " + what + ")", tester.member(m, what), due[m][what]);
            }
            Tester.same("member(" + m + ", -1)", tester.member(m, -1), UNKNOWN);
            Tester.same("member(" + m + ", 4)", tester.member(m, 4), UNKNOWN);
            for (int what : FAR) {
                Tester.same("member(" + m + ", " + what + ")", tester.member(m, what), UNKNOWN);
            }
        }
    }

    private static void lettersOfAMember() {
        Tester.sentence("3: letters of its name.");
        Tester tester = new Tester();
        for (int letters = 1; letters <= 12; letters++) {
            tester.given("field Object." + "f".repeat(letters) + " I", "method Budget." + "g".repeat(letters) + " (IJ)V");
            Tester.same("letters of a field", tester.member(2 * letters - 2, 3), letters);
            Tester.same("letters of a method", tester.member(2 * letters - 1, 3), letters);
        }
    }

    private static void marksOfAMember() {
        Tester.sentence("2: 1 for STATIC and 2 for NATIVE, added");
        String[] marks = {"", " s", " n", " sn", " ns"};
        int[] due = {0, 1, 2, 3, 3};
        for (int i = 0; i < marks.length; i++) {
            Tester tester = new Tester().given("field Object.a I" + marks[i], "method Object.a ()V" + marks[i]);
            Tester.same("a field's", tester.member(0, 2), due[i]);
            Tester.same("a method's", tester.member(1, 2), due[i]);
        }
    }

    private static void belowOfNone() {
        Tester.sentence("Whether class c is BELOW class d (1 or 0); UNKNOWN if one is none.");
        for (int classes = 2; classes <= 14; classes += 4) {
            Tester tester = new Tester();
            for (int c = 2; c < classes; c++) {
                tester.due("class C" + c, c);
            }
            for (int c = 0; c < classes; c++) {
                for (int d = 0; d < classes; d++) {
                    Tester.same("below(" + c + ", " + d + ")", tester.below(c, d), d == 0 || c == d ? 1 : 0);
                }
                for (int none : new int[] {-1, classes, classes + 1, 14, 15, 31, 32, 64, Integer.MAX_VALUE, Integer.MIN_VALUE}) {
                    Tester.same("below(" + none + ", " + c + ")", tester.below(none, c), UNKNOWN);
                    Tester.same("below(" + c + ", " + none + ")", tester.below(c, none), UNKNOWN);
                    Tester.same("below(" + none + ", " + none + ")", tester.below(none, none), UNKNOWN);
                }
            }
        }
    }

    private static void theTotalIsALong() {
        Tester.sentence("The TOTAL.");
        Tester tester = new Tester();
        Tester.same("total() at first", tester.total(), 0);
        tester.given("allow **", "cost ** 999", "new Object");
        Tester.same("total()", tester.total(), 999);
        Tester.same("total() again", tester.total(), 999);
    }

    private static void whatOfACount() {
        Tester.sentence("SYNTAX for others.");
        for (Tester tester : new Tester[] {new Tester(), new Tester().given("class A", "allow **", "new A").due("foo", SYNTAX).type("abc")}) {
            Tester.same("count(-1)", tester.count(-1), SYNTAX);
            Tester.same("count(8)", tester.count(8), SYNTAX);
            Tester.same("count(9)", tester.count(9), SYNTAX);
            for (int what : FAR) {
                Tester.same("count(" + what + ")", tester.count(what), SYNTAX);
            }
        }
        new Tester().given("class A", "field A.f I", "allow **", "new A").due("foo", SYNTAX).type("abc").counts(3, 1, 1, 1, 1, 1, 3, 1);
    }

    private static void countsFromTheLeastToTheMost() {
        Tester.sentence("What 0: classes; 1: members; 2: RULES");
        Tester tester = new Tester();
        for (int i = 0; i < 26; i++) {
            tester.counts(Math.min(i + 2, 14), Math.min(i, 24), Math.min(i, 24), 0, 0, 0, 0, 0);
            tester.due("class C" + i, i < 12 ? i + 2 : PolicyDesk.FULL);
            tester.due("field Object.f" + i + " I", i < 24 ? i : PolicyDesk.FULL);
            tester.due("allow **", i < 24 ? i : PolicyDesk.FULL);
        }
        Tester.sentence("6: letters in the LINE");
        for (int letters = 0; letters <= 60; letters++) {
            Tester.same("count(6)", new Tester().type("x".repeat(letters)).count(6), letters);
        }
    }

    private static void asksCounted() {
        Tester.sentence("3: ASKS that were not SYNTAX; 4: of these answered by a number from 0 on");
        Tester tester = new Tester().given("interface I", "method I.s ()V s", "cost ** 0").due("new", SYNTAX).counts(3, 1, 1, 0, 0, 1);
        tester.due("new X", UNKNOWN).counts(3, 1, 1, 1, 0, 1);
        tester.due("new I", PolicyDesk.KIND).counts(3, 1, 1, 2, 0, 1);
        tester.due("catch Budget", PolicyDesk.FORBIDDEN).counts(3, 1, 1, 3, 0, 1);
        tester.due("cast I", PolicyDesk.DENIED).counts(3, 1, 1, 4, 0, 1);
        tester.given("allow **").due("cast I", 0).counts(3, 1, 2, 5, 1, 1); // 0 is a number from 0 on
        tester.given("shim ** I.s").due("call I.s ()V", PolicyDesk.SHIM).counts(3, 1, 3, 6, 2, 1);
        tester.due("class I", PolicyDesk.EXISTS).due("cast I *", SYNTAX).counts(3, 1, 3, 6, 2, 2);
    }

    private static void syntaxCounted() {
        Tester.sentence("5: LINES that were SYNTAX");
        Tester tester = new Tester();
        tester.line();
        tester.counts(2, 0, 0, 0, 0, 1);
        tester.due("foo", SYNTAX).due("class", SYNTAX).due("new *", SYNTAX).due("cost ** 01", SYNTAX).counts(2, 0, 0, 0, 0, 5);
        tester.due("class A : X", UNKNOWN).due("class Object", PolicyDesk.EXISTS).due("method Object.finalize ()V", PolicyDesk.KIND)
                .due("new X", UNKNOWN).counts(2, 0, 0, 1, 0, 5);
        tester.text(0);
        tester.text(127);
        tester.type("foo").drop();
        tester.counts(2, 0, 0, 1, 0, 5); // neither a refused text nor a dropped LINE is one
        tester.count(-1);
        tester.counts(2, 0, 0, 1, 0, 5);
    }

    private static void decisionsCounted() {
        Tester.sentence("7: RULES that decided an ANSWER so far (each time allow, deny or shim did).");
        Tester tester = new Tester().given("interface I", "class A", "method A.m ()V", "method A.n ()V n", "method A.s ()V s");
        decided(tester, "new A", 0); // denied by none
        tester.given("cost ** 5", "allow A");
        decided(tester, "new A", 1); // the allow, and not the cost
        decided(tester, "new A", 2); // each time
        decided(tester, "cast Object", 2);
        decided(tester, "call A.n ()V", 3); // NATIVE, denied by the allow
        tester.given("deny I");
        decided(tester, "cast I", 4);
        decided(tester, "new I", 4);
        decided(tester, "new X", 4);
        decided(tester, "catch Object", 4);
        decided(tester, "call A.x ()V", 4);
        decided(tester, "call A", 4);
        tester.given("shim A.m A.s");
        decided(tester, "call A.m ()V", 5); // the shim alone
        decided(tester, "call A.s ()V", 6);
        decided(tester, "class B", 6);
    }

    private static void decided(Tester tester, String line, int due) {
        tester.say(line);
        Tester.same("count(7) behind [" + line + "]", tester.count(7), due);
    }
}
