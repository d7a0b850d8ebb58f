/** The edges of THE AUDIT: what is written, how many texts are kept, and where a letter is none. */
public final class EdgeAuditTest {
    private static final int UNKNOWN = PolicyDesk.UNKNOWN;
    private static final String LONGEST = "call Object.m (" + "I".repeat(43) + ")V";

    public static void main(String[] args) {
        emptyAtFirst();
        eachAskThatIsNotSyntax();
        theNumberFromZeroOn();
        theOutcomes();
        numbersBehindOutcomes();
        shortestAndLongest();
        theLatestTwelve();
        aShortTextOverALongOne();
        kThatIsNone();
        letterThatIsNone();
        Tester.end();
    }

    private static void last(Tester tester, String line, String text) {
        tester.say(line);
        Tester.same("audit(0)", tester.audit(0), text);
    }

    private static void emptyAtFirst() {
        Tester.sentence("an empty AUDIT.");
        Tester tester = new Tester();
        for (int k = -2; k < 14; k++) {
            for (int i = -2; i < 4; i++) {
                Tester.same("audit(" + k + ", " + i + ")", tester.audit(k, i), UNKNOWN);
            }
        }
    }

    private static void eachAskThatIsNotSyntax() {
        Tester.sentence("a text for each ASK that is not SYNTAX");
        Tester tester = new Tester().given("class A", "field A.f I", "method A.m ()V", "allow **", "deny A", "cost A 5").due("class A", -3)
                .due("new", -1).due("new *", -1).due("get A.f", -1).due("", -1).due("foo", -1).due("class B : X", -2).due("shim ** A.m", -4);
        Tester.same("no text yet", tester.audit(0), null);
        last(tester, "new A", "0 new A denied");
        tester.due("new A A", -1).due("class C", 3).due("cast", -1);
        Tester.same("the same text", tester.audit(0), "0 new A denied");
        Tester.same("no other", tester.audit(1), null);
        last(tester, "cast Object", "1 cast Object ok 1");
        last(tester, "catch C", "2 catch C ok 1");
        last(tester, "get A.f I", "3 get A.f I denied");
        last(tester, "call A.m ()V", "4 call A.m ()V denied");
        Tester.same("the first is still there", tester.audit(4), "0 new A denied");
        Tester.same("no sixth", tester.audit(5), null);
    }

    private static void theNumberFromZeroOn() {
        Tester.sentence("the number of the ASK (from 0 on), a space, the LINE, a space");
        Tester tester = new Tester();
        for (int asks = 0; asks < 240; asks++) {
            last(tester, "new X", asks + " new X unknown");
            if (asks % 40 == 0) {
                tester.due("new *", -1); // has no number
            }
        }
        Tester.same("count(3)", tester.count(3), 240);
    }

    private static void theOutcomes() {
        Tester.sentence("unknown, kind, forbidden, denied, shim and the number, or ok and n, with a space between.");
        Tester tester = new Tester().given("interface I", "class A", "field A.f I", "method A.m ()V", "method A.s ()V s");
        last(tester, "new X", "0 new X unknown");
        last(tester, "cast X", "1 cast X unknown");
        last(tester, "catch X", "2 catch X unknown");
        last(tester, "get A.g I", "3 get A.g I unknown");
        last(tester, "call A.f ()V", "4 call A.f ()V unknown");
        last(tester, "new I", "5 new I kind");
        last(tester, "catch Object", "6 catch Object forbidden");
        last(tester, "new A", "7 new A denied");
        tester.given("allow **", "cost A 0", "cost A.f 999", "shim A.m A.s");
        last(tester, "new A", "8 new A ok 0");
        last(tester, "get A.f I", "9 get A.f I ok 999");
        last(tester, "call A.m ()V", "10 call A.m ()V shim 2");
        last(tester, "cast I", "11 cast I ok 1");
        tester.given("deny I");
        last(tester, "cast I", "12 cast I denied");
    }

    private static void numbersBehindOutcomes() {
        Tester.sentence("shim and the number, or ok and n, with a space between.");
        Tester tester = new Tester();
        for (int m = 0; m < 24; m++) {
            tester.given("method Object.m" + m + " ()V s");
        }
        for (int m = 0; m < 24; m++) {
            tester.given("shim ** Object.m" + m);
            last(tester, "call Object.m0 ()V", m + " call Object.m0 ()V shim " + m);
        }
        for (int n : new int[] {0, 1, 9, 10, 99, 100, 101, 990, 999}) {
            Tester cost = new Tester().given("allow **", "cost ** " + n);
            last(cost, "new Object", "0 new Object ok " + n);
        }
    }

    private static void shortestAndLongest() {
        Tester.sentence("the number of the ASK (from 0 on), a space, the LINE, a space, and");
        Tester.same("letters of the longest LINE", LONGEST.length(), 60);
        Tester tester = new Tester();
        for (int asks = 0; asks < 100; asks++) {
            tester.say("new X");
        }
        last(tester, LONGEST, "100 " + LONGEST + " unknown");
        last(tester, "new X", "101 new X unknown");
        tester.given("method" + LONGEST.substring(4).replaceFirst("III", "I"), "allow Object.m", "cost Object.m 999");
        String call = LONGEST.replaceFirst("III", "I");
        last(tester, call, "102 " + call + " ok 999");
        tester.given("method Object.s ()V s", "shim ** Object.s");
        last(tester, call, "103 " + call + " shim 1");
    }

    private static void theLatestTwelve() {
        Tester.sentence("The latest 12 are kept.");
        for (int asks = 0; asks <= 40; asks++) {
            Tester tester = new Tester();
            for (int i = 0; i < asks; i++) {
                tester.say("new C" + i);
            }
            for (int k = 0; k < 16; k++) {
                int number = asks - 1 - k;
                boolean isKept = k < 12 && number >= 0;
                Tester.same("audit(" + k + ") of " + asks, tester.audit(k), isKept ? number + " new C" + number + " unknown" : null);
            }
        }
    }

    private static void aShortTextOverALongOne() {
        Tester.sentence("The latest 12 are kept.");
        Tester tester = new Tester();
        for (int i = 0; i < 12; i++) {
            tester.say(LONGEST);
        }
        for (int i = 12; i < 24; i++) {
            last(tester, "new X", i + " new X unknown");
            Tester.same("the oldest", tester.audit(11), (i - 11) + (i < 23 ? " " + LONGEST : " new X") + " unknown");
        }
    }

    private static void kThatIsNone() {
        Tester.sentence("the k-th text of the AUDIT before the latest (0 that one); UNKNOWN if there is none.");
        for (int asks : new int[] {1, 2, 11, 12, 13, 25}) {
            Tester tester = new Tester();
            for (int i = 0; i < asks; i++) {
                tester.say("new X");
            }
            int kept = Math.min(asks, 12);
            for (int k : new int[] {-1, -2, -12, kept, kept + 1, 12, 13, 24, 1 << 30, Integer.MAX_VALUE, Integer.MIN_VALUE, Integer.MIN_VALUE + 1}) {
                for (int i : new int[] {0, 1, -1, Integer.MAX_VALUE, Integer.MIN_VALUE}) {
                    Tester.same("audit(" + k + ", " + i + ") of " + asks, tester.audit(k, i), UNKNOWN);
                }
            }
            Tester.same("the oldest", tester.audit(kept - 1), (asks - kept) + " new X unknown");
            Tester.same("the latest", tester.audit(0), (asks - 1) + " new X unknown");
        }
    }

    private static void letterThatIsNone() {
        Tester.sentence("Letter i of the k-th text of the AUDIT before the latest (0 that one); UNKNOWN if there is none.");
        Tester tester = new Tester();
        String[] lines = {LONGEST, "new X", "cast Object", LONGEST};
        String[] texts = {"0 " + LONGEST + " unknown", "1 new X unknown", "2 cast Object denied", "3 " + LONGEST + " unknown"};
        for (String line : lines) {
            tester.say(line);
        }
        for (int k = 0; k < 4; k++) {
            String text = texts[3 - k];
            for (int i = -3; i < 130; i++) {
                Tester.same("audit(" + k + ", " + i + ")", tester.audit(k, i), i < 0 || i >= text.length() ? UNKNOWN : text.charAt(i));
            }
            for (int i : new int[] {1 << 30, Integer.MAX_VALUE, Integer.MIN_VALUE, Integer.MIN_VALUE + 1, -96, 96, 1152}) {
                Tester.same("audit(" + k + ", " + i + ")", tester.audit(k, i), UNKNOWN);
            }
        }
    }
}
