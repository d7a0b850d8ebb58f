/** The edges of the ANSWER and the TOTAL: which RULE is the better one, and what it decides. */
public final class EdgeAnswerTest {
    private static final int UNKNOWN = PolicyDesk.UNKNOWN;
    private static final int FORBIDDEN = PolicyDesk.FORBIDDEN;
    private static final int DENIED = PolicyDesk.DENIED;
    private static final int SHIM = PolicyDesk.SHIM;

    public static void main(String[] args) {
        theBetterClassPattern();
        theLongerName();
        aMembersName();
        anyMember();
        theLaterOne();
        nothingBehindForAClass();
        budgetIsBelowTheClass();
        theClassIsBelowBudget();
        aShimForCalls();
        theBestShim();
        noRule();
        aDeny();
        natives();
        theBestCost();
        oneIfThereIsNone();
        totalGrows();
        totalOfShims();
        Tester.end();
    }

    private static Tester withMember(String... more) {
        return new Tester().given("class p/q/A", "method p/q/A.m ()V", "method Object.a ()V s", "method Object.b ()V s").given(more);
    }

    /** Holds that the one RULE goes before the other, in both orders and for every kind of RULE. */
    private static void isBetter(String better, String worse) {
        String call = "call p/q/A.m ()V";
        for (int swap = 0; swap < 2; swap++) {
            withMember(swap == 0 ? "allow " + better : "deny " + worse, swap == 0 ? "deny " + worse : "allow " + better).due(call, 1);
            withMember(swap == 0 ? "deny " + better : "allow " + worse, swap == 0 ? "allow " + worse : "deny " + better).due(call, DENIED);
            String costly = "cost " + better + " 5";
            String cheap = "cost " + worse + " 6";
            withMember("allow **", swap == 0 ? costly : cheap, swap == 0 ? cheap : costly).due(call, 5);
            String first = "shim " + better + " Object.a";
            String second = "shim " + worse + " Object.b";
            withMember(swap == 0 ? first : second, swap == 0 ? second : first).due(call, SHIM + 1);
        }
    }

    private static void theBetterClassPattern() {
        Tester.sentence("the one with the better class pattern (a NAME, then /* , then /** , then **)");
        String[] heads = {"p/q/A", "p/q/*", "p/q/**", "**"};
        for (int better = 0; better < heads.length; better++) {
            for (int worse = better + 1; worse < heads.length; worse++) {
                for (String tail : new String[] {"", ".*", ".m"}) {
                    isBetter(heads[better], heads[worse] + tail); // whatever stands behind the worse one
                    isBetter(heads[better] + ".*", heads[worse] + tail);
                    isBetter(heads[better] + ".m", heads[worse] + tail);
                }
            }
        }
        isBetter("p/q/*", "p/**");
        isBetter("p/**", "**.m");
    }

    private static void theLongerName() {
        Tester.sentence("then with the longer NAME");
        isBetter("p/q/**", "p/**");
        isBetter("p/q/**", "p/**.*");
        isBetter("p/q/**", "p/**.m");
        isBetter("p/q/**.*", "p/**.m");
        // by its letters, one or twenty-two of them
        String deep = "abcdefghijklmnopqrst/u/v";
        Tester tester = new Tester().given("class " + deep, "deny abcdefghijklmnopqrst/u/**", "allow abcdefghijklmnopqrst/**");
        tester.due("new " + deep, DENIED);
        new Tester().given("class a/b/c", "allow a/b/**", "deny a/**").due("new a/b/c", 1).given("deny a/**", "deny **").due("cast a/b/c", 1);
    }

    private static void aMembersName() {
        Tester.sentence("then with a member's name");
        for (String head : new String[] {"**", "p/**", "p/q/**", "p/q/*", "p/q/A"}) {
            isBetter(head + ".m", head + ".*");
            isBetter(head + ".m", head);
        }
    }

    private static void anyMember() {
        Tester.sentence("then with .*");
        for (String head : new String[] {"**", "p/**", "p/q/**", "p/q/*", "p/q/A"}) {
            isBetter(head + ".*", head);
        }
    }

    private static void theLaterOne() {
        Tester.sentence("then the later one.");
        for (String pattern : new String[] {"**", "**.*", "**.m", "p/**", "p/q/**.*", "p/q/*", "p/q/*.m", "p/q/A", "p/q/A.*", "p/q/A.m"}) {
            String call = "call p/q/A.m ()V";
            withMember("allow " + pattern, "deny " + pattern).due(call, DENIED).given("allow " + pattern).due(call, 1)
                    .given("cost " + pattern + " 5", "cost " + pattern + " 6").due(call, 6).given("cost " + pattern + " 4").due(call, 4)
                    .given("shim " + pattern + " Object.b", "shim " + pattern + " Object.a").due(call, SHIM + 1)
                    .given("shim " + pattern + " Object.b").due(call, SHIM + 2);
        }
        // the first and the last of 24
        Tester tester = new Tester().given("deny **");
        for (int i = 0; i < 22; i++) {
            tester.given("cost ** " + i);
        }
        tester.due("new Object", DENIED).given("allow **").due("new Object", 21);
    }

    private static void nothingBehindForAClass() {
        Tester.sentence("For a class (new, cast, catch) RULES with nothing behind the class pattern alone FIT");
        for (String ask : new String[] {"new p/A", "cast p/A", "catch p/A"}) {
            for (String head : new String[] {"**", "p/A", "p/*", "p/**"}) {
                for (String tail : new String[] {".*", ".m", ".A"}) {
                    new Tester().given("class p/A", "field p/A.m I", "allow " + head + tail).due(ask, DENIED).given("allow **").due(ask, 1)
                            .given("deny " + head + tail).due(ask, 1).given("cost " + head + tail + " 7").due(ask, 1)
                            .given("cost " + head + " 7").due(ask, 7).given("deny " + head).due(ask, DENIED);
                }
            }
        }
    }

    private static void budgetIsBelowTheClass() {
        Tester.sentence("catch: FORBIDDEN if Budget is BELOW the class");
        new Tester().due("catch Object", FORBIDDEN).due("catch Budget", FORBIDDEN).given("allow **", "allow Object", "allow Budget")
                .due("catch Object", FORBIDDEN).due("catch Budget", FORBIDDEN).due("new Object", 1).due("cast Object", 1).due("new Budget", 1)
                .due("cast Budget", 1).given("deny **", "deny Object").due("catch Object", FORBIDDEN).due("cast Object", DENIED)
                .counts(2, 0, 5, 10, 4, 0, 0, 5);
    }

    private static void theClassIsBelowBudget() {
        Tester.sentence("or the class BELOW Budget.");
        Tester tester = new Tester().given("class E : Budget", "interface I", "class F : E I", "class G : F", "class H", "class K : Object I", "allow **");
        tester.due("catch E", FORBIDDEN).due("catch F", FORBIDDEN).due("catch G", FORBIDDEN).due("catch H", 1).due("catch I", 1).due("catch K", 1)
                .due("new E", 1).due("cast G", 1).due("catch X", UNKNOWN).given("deny H").due("catch H", DENIED);
    }

    private static void aShimForCalls() {
        Tester.sentence("call: if a shim FITS the best one: SHIM and the number of the METHOD to which it leads.");
        Tester tester = new Tester().given("class A", "field A.m I", "method A.m ()V n", "method A.o ()V", "method Object.s ()V s", "shim A.m Object.s");
        tester.due("call A.m ()V", SHIM + 3).due("call A.o ()V", DENIED).due("get A.m I", DENIED).due("new A", DENIED).due("call Object.s ()V", DENIED);
        tester.given("deny A.m", "cost A.m 50").due("call A.m ()V", SHIM + 3); // before deny, NATIVE and cost
        tester.given("shim ** Object.s").due("new A", DENIED).due("cast A", DENIED).due("catch A", DENIED).due("get A.m I", DENIED)
                .due("call A.o ()V", SHIM + 3).due("call Object.s ()V", SHIM + 3);
        new Tester().given("method Object.s ()V s", "shim ** Object.s").due("call Object.s ()V", SHIM); // the least number
        Tester most = new Tester();
        for (int m = 0; m < 24; m++) {
            most.given("method Object.m" + m + " ()V s");
        }
        most.given("shim ** Object.m23").due("call Budget.m0 ()V", SHIM + 23); // the greatest
    }

    private static void theBestShim() {
        Tester.sentence("if a shim FITS the best one");
        withMember("shim p/q/* Object.a", "shim ** Object.b").due("call p/q/A.m ()V", SHIM + 1).due("call Object.b ()V", SHIM + 2)
                .given("shim p/q/A.x Object.b").due("call p/q/A.m ()V", SHIM + 1).given("shim p/q/A Object.b").due("call p/q/A.m ()V", SHIM + 2)
                .given("allow p/q/A.m").due("call p/q/A.m ()V", SHIM + 2);
    }

    private static void noRule() {
        Tester.sentence("DENIED if it is a deny, or there is none");
        Tester tester = new Tester().given("class A", "field A.f I", "method A.m ()V");
        String[] asks = {"new A", "cast A", "catch A", "get A.f I", "call A.m ()V"};
        for (String ask : asks) {
            tester.due(ask, DENIED);
        }
        tester.given("allow B", "allow A/*", "cost ** 5");
        for (String ask : asks) {
            tester.due(ask, DENIED);
        }
        tester.given("allow A");
        for (String ask : asks) {
            tester.due(ask, 5);
        }
        tester.counts(3, 2, 4, 15, 5, 0, 0, 5);
    }

    private static void aDeny() {
        Tester.sentence("Then the best of allow and deny: DENIED if it is a deny");
        new Tester().given("allow **").due("new Object", 1).given("deny Budget").due("new Object", 1).due("new Budget", DENIED)
                .given("deny **").due("new Object", DENIED).given("allow Budget").due("new Budget", 1).due("new Object", DENIED);
    }

    private static void natives() {
        Tester.sentence("a NATIVE method is DENIED also by an allow that has no member's name.");
        for (String head : new String[] {"**", "p/A", "p/*", "p/**"}) {
            Tester tester = new Tester().given("class p/A", "method p/A.m ()V n", "method p/A.m (I)V sn", "method p/A.m (J)V s", "method p/A.m (Z)V",
                    "field p/A.m I n");
            for (String tail : new String[] {"", ".*"}) {
                tester.copy().given("allow " + head + tail).due("call p/A.m ()V", DENIED).due("call p/A.m (I)V", DENIED)
                        .due("call p/A.m (J)V", 1).due("call p/A.m (Z)V", 1).due("get p/A.m I", 1).counts(3, 5, 1, 5, 3, 0, 0, 5);
            }
            tester.copy().given("allow " + head + ".m").due("call p/A.m ()V", 1).due("call p/A.m (I)V", 1).due("call p/A.m (J)V", 1)
                    .due("get p/A.m I", 1).given("deny " + head + ".m").due("call p/A.m ()V", DENIED);
            tester.copy().given("allow " + head, "allow " + head + ".m").due("call p/A.m ()V", 1);
        }
        // The best one decides, and a worse one with the member's name does not help.
        new Tester().given("class p/A", "method p/A.m ()V n", "allow **.m").due("call p/A.m ()V", 1).given("allow p/A")
                .due("call p/A.m ()V", DENIED).given("allow p/A.m").due("call p/A.m ()V", 1);
    }

    private static void theBestCost() {
        Tester.sentence("Else the best cost: n (1 if there is none).");
        Tester tester = new Tester().given("class A", "field A.f I", "method A.m ()V", "allow **", "cost ** 0").due("new A", 0).due("get A.f I", 0)
                .given("cost ** 999").due("new A", 999).due("call A.m ()V", 999).given("cost A.* 3").due("new A", 999).due("get A.f I", 3)
                .given("cost A 2").due("new A", 2).due("get A.f I", 3).given("cost A.f 4").due("get A.f I", 4).due("call A.m ()V", 3);
        tester.given("deny A").due("new A", DENIED).due("get A.f I", DENIED);
    }

    private static void oneIfThereIsNone() {
        Tester.sentence("n (1 if there is none)");
        new Tester().given("class A", "allow **", "cost Budget 5", "cost Object.* 6", "cost A/* 7").due("new A", 1).due("cast Object", 1)
                .due("cast Budget", 5).given("cost ** 0").due("new A", 0);
    }

    private static void total(Tester tester, String line, int answer, long total) {
        tester.due(line, answer);
        Tester.same("total() behind [" + line + "]", tester.total(), total);
    }

    private static void totalGrows() {
        Tester.sentence("The TOTAL grows by n of each ASK that is answered by it");
        Tester tester = new Tester().given("class A", "interface I", "field A.f I");
        Tester.same("total() at first", tester.total(), 0);
        total(tester, "new A", DENIED, 0);
        total(tester, "allow **", 0, 0);
        total(tester, "new A", 1, 1);
        total(tester, "cost ** 0", 1, 1);
        total(tester, "new A", 0, 1);
        total(tester, "cost A.f 999", 2, 1);
        total(tester, "get A.f I", 999, 1000);
        total(tester, "new X", UNKNOWN, 1000);
        total(tester, "new I", PolicyDesk.KIND, 1000);
        total(tester, "catch Object", FORBIDDEN, 1000);
        total(tester, "new", PolicyDesk.SYNTAX, 1000);
        total(tester, "class A", PolicyDesk.EXISTS, 1000);
        total(tester, "get A.f I", 999, 1999);
        Tester most = new Tester().given("allow **", "cost ** 999", "class A");
        for (int asks = 1; most.callsLeft() > 3; asks++) {
            total(most, "cast A", 999, 999L * asks);
        }
    }

    private static void totalOfShims() {
        Tester.sentence("(and by 1 for a SHIM).");
        Tester tester = new Tester().given("method Object.s ()V s", "method Object.t ()V s", "cost ** 0", "shim ** Object.s", "shim Budget Object.t");
        total(tester, "call Object.s ()V", SHIM, 1);
        total(tester, "call Object.t ()V", SHIM, 2);
        total(tester, "method Budget.m ()V", 2, 2);
        total(tester, "call Budget.m ()V", SHIM + 1, 3);
    }
}
