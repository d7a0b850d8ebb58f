/** The edges of fields and methods: how they are declared, and how many there are. */
public final class EdgeMembersTest {
    private static final int SYNTAX = PolicyDesk.SYNTAX;
    private static final int UNKNOWN = PolicyDesk.UNKNOWN;
    private static final int EXISTS = PolicyDesk.EXISTS;
    private static final int KIND = PolicyDesk.KIND;
    private static final int FULL = PolicyDesk.FULL;

    public static void main(String[] args) {
        wordsOfAField();
        wordsOfAMethod();
        noSuchClass();
        alreadyThere();
        likewiseForAMethod();
        finalizeWithNothing();
        twentyFourMembers();
        numberedTogether();
        inThisOrder();
        Tester.end();
    }

    private static Tester ready() {
        return new Tester().given("class a/A", "class B : a/A"); // 2, 3
    }

    private static void wordsOfAField() {
        Tester.sentence("field MEMBER TYPE, or field MEMBER TYPE MARKS");
        for (String line : new String[] {"field", "field B.f", "field I", "field B.f s", "field B.f I s n", "field B.f I s s", "field B.f I I",
            "field B.f ()V", "field B I", "field I B.f", "Field B.f I", "fields B.f I", "fiel B.f I", "field B f I", "field B.f I : s",
            "field B.f s I", "field B.f V", "field B.f I sn s"}) {
            ready().due(line, SYNTAX).counts(4, 0, 0, 0, 0, 1, 0, 0);
        }
        ready().due("field B.f I", 0).due("field B.g I s", 1).due("field B.h I n", 2).due("field B.i I sn", 3).due("field B.j I ns", 4)
                .counts(4, 5, 0, 0, 0, 0, 0, 0);
    }

    private static void wordsOfAMethod() {
        Tester.sentence("method MEMBER SHAPE, or method MEMBER SHAPE MARKS");
        for (String line : new String[] {"method", "method B.m", "method ()V", "method B.m s", "method B.m ()V s n", "method B.m ()V n n",
            "method B.m ()V I", "method B.m I", "method B ()V", "method ()V B.m", "Method B.m ()V", "methods B.m ()V", "metho B.m ()V",
            "method B.m () V", "method B.m ( )V", "method B.m s ()V", "method B.m()V", "method B.m V"}) {
            ready().due(line, SYNTAX).counts(4, 0, 0, 0, 0, 1, 0, 0);
        }
        ready().due("method B.f ()V", 0).due("method B.g ()V s", 1).due("method B.h ()V n", 2).due("method B.i ()V sn", 3)
                .due("method B.j ()V ns", 4).counts(4, 5, 0, 0, 0, 0, 0, 0);
    }

    private static void noSuchClass() {
        Tester.sentence("a field of a class (UNKNOWN;");
        for (String name : new String[] {"X", "A", "a", "b", "a/a", "a/A/B", "BB"}) {
            ready().due("field " + name + ".f I", UNKNOWN).due("method " + name + ".f ()V", UNKNOWN).counts(4, 0, 0, 0, 0, 0, 0, 0);
        }
        ready().due("field a/A.f I", 0).due("method B.f ()V", 1).due("field Object.f I", 2).due("method Budget.f ()V", 3);
        new Tester().due("field X.f I", UNKNOWN).due("interface X", 2).due("field X.f I", 0).due("method X.f ()V", 1);
    }

    private static void alreadyThere() {
        Tester.sentence("EXISTS if it has one of that name and TYPE");
        Tester tester = ready().due("field a/A.f I", 0);
        tester.due("field a/A.f I", EXISTS).due("field a/A.f I s", EXISTS).due("field a/A.f I n", EXISTS);
        tester.due("field a/A.f J", 1).due("field a/A.f [I", 2).due("field a/A.g I", 3).due("field a/A.F I", 4).due("field B.f I", 5)
                .due("field Object.f I", 6).due("method a/A.f ()I", 7).due("field a/A.f LI;", 8).due("field a/A.ff I", 9);
        tester.due("field a/A.f J", EXISTS).due("field a/A.f [I", EXISTS).due("field B.f I sn", EXISTS).due("field a/A.f LI;", EXISTS);
        tester.counts(4, 10, 0, 0, 0, 0, 0, 0);
        Tester.same("its MARKS are the first ones", tester.member(0, 2), 0);
    }

    private static void likewiseForAMethod() {
        Tester.sentence("method MEMBER SHAPE, or method MEMBER SHAPE MARKS: likewise");
        Tester tester = ready().due("method B.m (I)V s", 0);
        tester.due("method B.m (I)V s", EXISTS).due("method B.m (I)V", EXISTS).due("method B.m (I)V n", EXISTS);
        tester.due("method B.m (J)V", 1).due("method B.m (I)I", 2).due("method B.m ()V", 3).due("method B.m (II)V", 4)
                .due("method a/A.m (I)V", 5).due("method B.n (I)V", 6).due("method B.M (I)V", 7).due("field B.m I", 8)
                .due("method Object.m (I)V", 9).due("method B.m (I)[V", SYNTAX);
        tester.due("method B.m (I)I", EXISTS).due("method B.m ()V sn", EXISTS).counts(4, 10, 0, 0, 0, 1, 0, 0);
        Tester.same("its MARKS are the first ones", tester.member(0, 2), 1);
    }

    private static void finalizeWithNothing() {
        Tester.sentence("KIND if it is finalize with ()V.");
        for (String name : new String[] {"Object", "Budget", "a/A", "B"}) {
            for (String marks : new String[] {"", " s", " n", " sn", " ns"}) {
                ready().due("method " + name + ".finalize ()V" + marks, KIND).counts(4, 0, 0, 0, 0, 0, 0, 0);
            }
        }
        ready().due("method B.finalize ()I", 0).due("method B.finalize (I)V", 1).due("method B.finalize ()[I", 2)
                .due("field B.finalize I", 3).due("method B.Finalize ()V", 4).due("method B.finalizer ()V", 5)
                .due("method B.finaliz ()V", 6).due("method B.finalize ()V", KIND).due("call B.finalize ()V", UNKNOWN)
                .due("allow B", 0).due("call B.finalize ()I", 1);
        new Tester().due("class finalize", 2).due("method finalize.m ()V", 0).due("method finalize.finalize ()V", KIND);
    }

    /** A desk with that many members: fields (0), methods (1) or both in turn (2). */
    private static Tester filled(int members, int kind) {
        Tester tester = ready();
        for (int number = 0; number < members; number++) {
            boolean isMethod = kind == 1 || kind == 2 && number % 2 == 1;
            tester.due(isMethod ? "method B.m" + number + " ()V s" : "field a/A.m" + number + " I", number);
        }
        return tester;
    }

    private static void twentyFourMembers() {
        Tester.sentence("(FULL: 24 members, both together; they are numbered together.)");
        for (int kind = 0; kind < 3; kind++) {
            for (String line : new String[] {"field B.z I", "field Object.z J s", "method B.z ()V", "method a/A.z (I)V sn"}) {
                filled(23, kind).due(line, 23).counts(4, 24, 0, 0, 0, 0, 0, 0);
                Tester full = filled(24, kind).due(line, FULL).due(line, FULL).counts(4, 24, 0, 0, 0, 0, 0, 0);
                Tester.same("member(23, 1)", full.member(23, 1), kind == 0 ? 0 : 1);
                Tester.same("member(24, 0)", full.member(24, 0), UNKNOWN);
                full.due("class C", 4).due("allow **", 0).due("get B.z I", UNKNOWN).due("call B.z ()V", UNKNOWN)
                        .due(kind == 0 ? "get a/A.m23 I" : "call B.m23 ()V", 1);
            }
        }
    }

    private static void numberedTogether() {
        Tester.sentence("they are numbered together.");
        Tester tester = ready().due("field B.a I", 0).due("method B.a ()V", 1).due("method Object.b ()V", 2).due("field Object.b I", 3)
                .due("field B.a I", EXISTS).due("method X.a ()V", UNKNOWN).due("method B.finalize ()V", KIND).due("method B.c", SYNTAX)
                .due("method B.c ()V", 4);
        int[] kinds = {0, 1, 1, 0, 1};
        for (int m = 0; m < kinds.length; m++) {
            Tester.same("member(" + m + ", 1)", tester.member(m, 1), kinds[m]);
        }
    }

    private static void inThisOrder() {
        Tester.sentence("then, in this order, UNKNOWN, EXISTS, KIND, FULL, what is named there");
        for (int members : new int[] {2, 24}) {
            filled(members, 2).due("method X.finalize ()V", UNKNOWN).due("field X.m0 I", UNKNOWN).due("method X.m1 ()V", UNKNOWN)
                    .due("field a/A.m0 I", EXISTS).due("method B.m1 ()V", EXISTS).due("method B.finalize ()V", KIND)
                    .due("method X.finalize ()V x", SYNTAX).due("field a/A.m0 I x", SYNTAX).due("field B.z I", members == 24 ? FULL : 2);
        }
    }
}
