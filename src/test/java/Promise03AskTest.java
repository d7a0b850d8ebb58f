/** Promise 3: the lines that ask: what is FOUND, and what is ANSWERED. */
public final class Promise03AskTest {
    private static final int UNKNOWN = PolicyDesk.UNKNOWN;
    private static final int KIND = PolicyDesk.KIND;
    private static final int FORBIDDEN = PolicyDesk.FORBIDDEN;
    private static final int DENIED = PolicyDesk.DENIED;
    private static final int SHIM = PolicyDesk.SHIM;

    public static void main(String[] args) {
        fieldsAreFoundInInterfacesBeforeAbove();
        methodsAreFoundAboveBeforeInterfaces();
        interfacesAreSearchedInOrderAndInDepth();
        membersOfObjectAreFoundLast();
        whatIsNotFound();
        patternsFitClasses();
        patternsFitMembers();
        theBetterRule();
        theBetterRuleAmongCosts();
        catches();
        natives();
        standIns();
        Tester.end();
    }

    /** A desk on which each class answers with a cost of its own, so that the answer tells the owner. */
    private static Tester hierarchy() {
        return new Tester().given("interface I", "interface J : I", "interface K", "class A : Object K",
                "class B : A J K", "class C : B", "allow **", "cost Object 10", "cost I 12", "cost J 13",
                "cost K 14", "cost A 15", "cost B 16", "cost C 17");
    }

    private static void fieldsAreFoundInInterfacesBeforeAbove() {
        Tester tester = hierarchy().due("get C.f I", UNKNOWN);
        String[] owners = {"Object", "K", "A", "I", "J", "B", "C"};
        int[] answers = {10, 14, 14, 12, 13, 16, 17};
        for (int i = 0; i < owners.length; i++) {
            tester.given("field " + owners[i] + ".f I").due("get C.f I", answers[i]);
        }
        tester.due("get B.f I", 16).due("get A.f I", 15).due("get J.f I", 13).due("get Budget.f I", 10)
                .due("get C.f J", UNKNOWN).due("get C.F I", UNKNOWN).due("call C.f ()V", UNKNOWN);
    }

    private static void methodsAreFoundAboveBeforeInterfaces() {
        Tester tester = hierarchy().due("call C.m ()V", UNKNOWN);
        String[] owners = {"K", "I", "J", "Object", "A", "B", "C"};
        int[] answers = {14, 12, 13, 10, 15, 16, 17};
        for (int i = 0; i < owners.length; i++) {
            tester.given("method " + owners[i] + ".m ()V").due("call C.m ()V", answers[i]);
        }
        tester.due("call A.m ()V", 15).due("call J.m ()V", 13).due("call Budget.m ()V", 10)
                .due("call C.m ()I", UNKNOWN).due("call C.M ()V", UNKNOWN).due("get C.m I", UNKNOWN);
    }

    private static void interfacesAreSearchedInOrderAndInDepth() {
        for (String[] ask : new String[][] {{"field ", "I", "get "}, {"method ", "()V", "call "}}) {
            Tester tester = new Tester().given("interface P", "interface Q", "interface R : Q P", "interface S",
                    "class A : Object R S", "class B : Object S R", "allow **", "cost P 2", "cost Q 3", "cost R 4",
                    "cost S 5", ask[0] + "P.x " + ask[1], ask[0] + "S.x " + ask[1]);
            tester.due(ask[2] + "A.x " + ask[1], 2).due(ask[2] + "B.x " + ask[1], 5).due(ask[2] + "R.x " + ask[1], 2);
            tester.given(ask[0] + "Q.x " + ask[1]).due(ask[2] + "A.x " + ask[1], 3).due(ask[2] + "B.x " + ask[1], 5);
            tester.given(ask[0] + "R.x " + ask[1]).due(ask[2] + "A.x " + ask[1], 4).due(ask[2] + "B.x " + ask[1], 5);
        }
    }

    private static void membersOfObjectAreFoundLast() {
        // Object is above the interface too, but it is searched behind what is above the class.
        new Tester().given("interface I", "class A", "class B : A I", "field Object.f I", "field A.f I", "allow A.f",
                "deny Object").due("get B.f I", 1).due("get I.f I", DENIED);
        new Tester().given("interface I", "interface J : I", "method I.m ()V", "method Object.m ()V", "cost I 5",
                "allow **").due("call J.m ()V", 1).due("call I.m ()V", 5);
    }

    private static void whatIsNotFound() {
        Tester tester = new Tester().given("allow **", "class A", "class B : A", "interface I", "field B.f I",
                "method B.m ()V", "method Budget.m ()V");
        tester.due("new X", UNKNOWN).due("cast X", UNKNOWN).due("catch X", UNKNOWN).due("get X.f I", UNKNOWN)
                .due("call X.m ()V", UNKNOWN).due("get A.f I", UNKNOWN).due("call A.m ()V", UNKNOWN)
                .due("call B.finalize ()V", UNKNOWN).due("new I", KIND).due("cast I", 1).due("catch I", 1)
                .due("new a", UNKNOWN).due("call I.m ()V", UNKNOWN);
    }

    private static void patternsFitClasses() {
        fits("**", "Object", "Budget", "a", "a/b", "a/b/c", "ab", "ab/c", "a/b/c/d");
        fits("a", "a");
        fits("a/b", "a/b");
        fits("a/*", "a/b");
        fits("a/**", "a/b", "a/b/c", "a/b/c/d");
        fits("a/b/*", "a/b/c");
        fits("a/b/**", "a/b/c", "a/b/c/d");
        fits("ab/*", "ab/c");
        fits("a/b/c/d/**");
        fits("b/*");
        fits("A");
        fits("**.*");
        fits("**.a");
        fits("a/b.*");
        fits("a/b.m");
    }

    private static void fits(String pattern, String... classes) {
        Tester tester = new Tester();
        String[] names = {"a", "a/b", "a/b/c", "ab", "ab/c", "a/b/c/d"};
        for (String name : names) {
            tester.given("class " + name);
        }
        tester.given("allow " + pattern, "cost " + pattern + " 7");
        java.util.List<String> fitting = java.util.List.of(classes);
        for (String name : new String[] {"Object", "Budget", "a", "a/b", "a/b/c", "ab", "ab/c", "a/b/c/d"}) {
            int answer = fitting.contains(name) ? 7 : DENIED;
            tester.due("new " + name, answer).due("cast " + name, answer);
        }
    }

    private static void patternsFitMembers() {
        for (String pattern : new String[] {"**", "**.*", "**.m", "p/A", "p/A.*", "p/A.m", "p/*", "p/*.*", "p/*.m", "p/**",
            "p/**.*", "p/**.m"}) {
            Tester tester = new Tester().given("class p/A", "class B : p/A", "method p/A.m ()V", "field p/A.m I",
                    "method p/A.mm ()V", "allow " + pattern, "cost " + pattern + " 3");
            int other = pattern.indexOf(".m") < 0 ? 3 : DENIED;
            tester.due("call p/A.m ()V", 3).due("call B.m ()V", 3).due("get B.m I", 3).due("call B.mm ()V", other);
        }
        for (String pattern : new String[] {"B", "B.m", "B.*", "p", "p.m", "q/**", "p/A/*", "**.M", "**.n", "**.mm"}) {
            new Tester().given("class p/A", "class B : p/A", "method p/A.m ()V", "allow " + pattern)
                    .due("call B.m ()V", DENIED);
        }
    }

    private static void theBetterRule() {
        // Each is better than all before it, wherever it stands.
        String[] ranks = {"**", "**.*", "**.m", "p/**", "p/**.*", "p/**.m", "p/q/**", "p/q/**.*", "p/q/**.m",
            "p/q/*", "p/q/*.*", "p/q/*.m", "p/q/A", "p/q/A.*", "p/q/A.m"};
        for (int better = 1; better < ranks.length; better++) {
            for (int worse = 0; worse < better; worse++) {
                duel(ranks[better], ranks[worse]);
            }
        }
        new Tester().given("deny **", "allow **").due("new Object", 1).given("deny **").due("new Object", DENIED)
                .given("deny a").due("new Object", DENIED).given("allow **").due("new Object", 1);
        new Tester().given("class p/A", "deny p/*", "allow **.*", "allow **").due("new p/A", DENIED);
        new Tester().given("class p/A", "allow p/*", "deny p/A.*", "deny p/A.m").due("new p/A", 1);
    }

    private static Tester withMethod(String... more) {
        return new Tester().given("class p/q/A", "method p/q/A.m ()V").given(more);
    }

    private static void duel(String better, String worse) {
        withMethod("allow " + better, "deny " + worse).due("call p/q/A.m ()V", 1);
        withMethod("deny " + worse, "allow " + better).due("call p/q/A.m ()V", 1);
        withMethod("deny " + better, "allow " + worse).due("call p/q/A.m ()V", DENIED);
        withMethod("allow **", "cost " + better + " 5", "cost " + worse + " 6").due("call p/q/A.m ()V", 5);
        withMethod("allow **", "cost " + worse + " 6", "cost " + better + " 5").due("call p/q/A.m ()V", 5);
        withMethod("method Object.a ()V s", "method Object.b ()V s", "shim " + better + " Object.a",
                "shim " + worse + " Object.b").due("call p/q/A.m ()V", SHIM + 1);
    }

    private static void theBetterRuleAmongCosts() {
        new Tester().given("cost ** 5").due("new Object", DENIED).given("allow **").due("new Object", 5)
                .given("cost ** 0").due("new Object", 0).given("cost ** 999").due("new Object", 999)
                .given("cost Budget 7").due("new Object", 999).due("new Budget", 7).given("cost Object.* 3")
                .due("new Object", 999).given("cost Object 2").due("cast Object", 2);
    }

    private static void catches() {
        Tester tester = new Tester().given("allow **", "interface I", "class A : Budget I", "class B : A", "class C");
        tester.due("catch Object", FORBIDDEN).due("catch Budget", FORBIDDEN).due("catch A", FORBIDDEN)
                .due("catch B", FORBIDDEN).due("catch C", 1).due("catch I", 1).due("cast Budget", 1)
                .due("new A", 1).due("cast Object", 1).given("deny C").due("catch C", DENIED)
                .given("deny Budget").due("catch Budget", FORBIDDEN).due("cast Budget", DENIED);
    }

    private static void natives() {
        for (String pattern : new String[] {"**", "**.*", "p/*", "p/*.*", "p/**", "p/A", "p/A.*"}) {
            new Tester().given("class p/A", "method p/A.m ()V n", "method p/A.m (I)V s", "field p/A.m I n",
                    "allow " + pattern).due("call p/A.m ()V", DENIED).due("call p/A.m (I)V", 1).due("get p/A.m I", 1);
        }
        for (String pattern : new String[] {"**.m", "p/*.m", "p/**.m", "p/A.m"}) {
            new Tester().given("class p/A", "method p/A.m ()V sn", "allow " + pattern).due("call p/A.m ()V", 1);
        }
        // The best rule decides: a worse one that names the member does not help.
        new Tester().given("class p/A", "method p/A.m ()V n", "allow **.m", "allow p/A").due("call p/A.m ()V", DENIED);
        new Tester().given("class p/A", "method p/A.m ()V n", "deny p/A.m").due("call p/A.m ()V", DENIED);
    }

    private static void standIns() {
        Tester tester = new Tester().given("class A", "class B : A", "field A.m I", "method A.m ()V n", "method A.s ()V s",
                "method A.t ()V s", "deny **", "shim A.m A.s");
        tester.due("call A.m ()V", SHIM + 2).due("call B.m ()V", SHIM + 2).due("get A.m I", DENIED)
                .due("call A.s ()V", DENIED).due("new A", DENIED).due("call B.x ()V", UNKNOWN);
        tester.given("shim ** A.t").due("call A.m ()V", SHIM + 2).due("call A.t ()V", SHIM + 3)
                .due("get A.m I", DENIED).due("new A", DENIED).due("cast A", DENIED);
        tester.given("shim A.m A.t").due("call A.m ()V", SHIM + 3).given("cost ** 50").due("call A.m ()V", SHIM + 3);
        Tester.same("total", tester.total(), 6);
        new Tester().given("method Object.m ()V s", "shim Object Object.m").due("call Object.m ()V", SHIM);
    }
}
