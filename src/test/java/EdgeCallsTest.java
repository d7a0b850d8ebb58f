import java.util.Random;

/** The edge of 512 calls, and calls with any argument in any state. */
public final class EdgeCallsTest {
    public static void main(String[] args) {
        upToTheLastCall();
        theLastCallOfEachKind();
        beyondTheLastCall();
        Tester.end();
    }

    private static void upToTheLastCall() {
        Tester.sentence("An object is used for at most 512 calls after it has been made");
        Tester asked = untilThreeCallsAreLeft().type("cast Budget");
        Tester.same("calls left", asked.callsLeft(), 1);
        Tester.same("the ask in call 512", asked.line(), 9);
        Tester looked = untilThreeCallsAreLeft();
        while (looked.callsLeft() > 0) {
            Tester.same("total()", looked.total(), 9 * 168);
        }
    }

    private static Tester untilThreeCallsAreLeft() {
        Tester tester = new Tester().due("allow **", 0).due("cost ** 9", 1);
        while (tester.callsLeft() > 3) {
            tester.due("cast Object", 9);
        }
        return tester;
    }

    /** A desk that has had 511 calls, the last ones letters of a LINE that asks. */
    private static PolicyDesk atTheLastCall() {
        PolicyDesk desk = new PolicyDesk();
        for (int i = 0; i < 509; i++) {
            Tester.same("an empty LINE", desk.line(), PolicyDesk.SYNTAX);
        }
        Tester.same("letters", desk.text(Tester.pack("new Obje")), 8);
        Tester.same("letters", desk.text(Tester.pack("ct")), 10);
        return desk;
    }

    private static void theLastCallOfEachKind() {
        Tester.sentence("nothing about an object after its 512th call.");
        Tester.same("text", atTheLastCall().text('s'), 11);
        Tester.same("line", atTheLastCall().line(), PolicyDesk.DENIED);
        Tester.same("drop", atTheLastCall().drop(), 10);
        Tester.same("cls", atTheLastCall().cls(1, 0), 0);
        Tester.same("member", atTheLastCall().member(0, 0), PolicyDesk.UNKNOWN);
        Tester.same("audit", atTheLastCall().audit(0, 0), PolicyDesk.UNKNOWN);
        Tester.same("below", atTheLastCall().below(1, 0), 1);
        Tester.same("total", atTheLastCall().total(), 0);
        Tester.same("count", atTheLastCall().count(5), 509);
    }

    /** What later calls answer is free, but none may throw (LANGUAGE.md, rule 7): an exception ends this test. */
    private static void beyondTheLastCall() {
        Tester.sentence("what later calls answer is free.");
        Random random = new Random(7);
        String[] words = {"class", "interface", "field", "method", "allow", "deny", "cost", "shim", "new", "cast", "catch", "get", "call", ":", "I", "A",
            "A.f", "I.m", "()V", "(I)V", "**", "A/*", "**.m", "7", "s", "n", "Object", "Budget", "", "[", "(", "L;", "A.", ".", "/"};
        for (int desks = 0; desks < 20; desks++) {
            PolicyDesk desk = new PolicyDesk();
            for (int i = 0; i < 4000; i++) {
                StringBuilder line = new StringBuilder(words[random.nextInt(13)]);
                for (int more = random.nextInt(6); more > 0; more--) {
                    line.append(' ').append(words[random.nextInt(words.length)]);
                }
                for (int at = 0; at < line.length(); at += 8) {
                    desk.text(Tester.pack(line.substring(at, Math.min(line.length(), at + 8))));
                }
                desk.line();
                look(desk, random.nextInt() >> random.nextInt(32), random.nextInt() >> random.nextInt(32));
            }
            Tester.same("it still answers", desk.count(0) >= 2 ? 1 : 0, 1);
        }
    }

    private static void look(PolicyDesk desk, int a, int b) {
        desk.cls(a, b);
        desk.member(a, b);
        desk.audit(a, b);
        desk.below(a, b);
        desk.count(a);
        desk.total();
        desk.text((long) a << 32 ^ b);
        if ((a & 15) == 0) {
            desk.drop();
        }
    }
}
