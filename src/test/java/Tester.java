/** A desk under test, what was said to it, and the count of answers that were not as due. */
final class Tester {
    private static int checks = 0;
    private static int wrong = 0;

    final PolicyDesk desk = new PolicyDesk();

    /** Packs up to eight letters as text(w) takes them, the first in the lowest octet. */
    static long pack(String letters) {
        long w = 0;
        for (int i = letters.length() - 1; i >= 0; i--) {
            w = w << 8 | letters.charAt(i);
        }
        return w;
    }

    /** Lets the letters come to the LINE. */
    Tester type(String letters) {
        for (int i = 0; i < letters.length(); i += 8) {
            desk.text(pack(letters.substring(i, Math.min(i + 8, letters.length()))));
        }
        return this;
    }

    int say(String line) {
        if (line.length() > 60) {
            throw new IllegalArgumentException("the test itself is wrong: no LINE is as long as " + line);
        }
        type(line);
        return desk.line();
    }

    /** Says a LINE whose answer is known. */
    Tester due(String line, int answer) {
        same("[" + line + "]", say(line), answer);
        return this;
    }

    /** Says LINES whose answers do not matter here. */
    Tester given(String... lines) {
        for (String line : lines) {
            if (say(line) < 0) {
                same("[" + line + "] is meant to be accepted", 0, 1);
            }
        }
        return this;
    }

    /** The k-th text of the audit before the latest, or null if there is none. */
    String audit(int k) {
        if (desk.audit(k, 0) < 0) {
            return null;
        }
        StringBuilder text = new StringBuilder();
        for (int i = 0; desk.audit(k, i) >= 0; i++) {
            text.append((char) desk.audit(k, i));
        }
        return text.toString();
    }

    static void same(String what, long got, long want) {
        checks++;
        if (got != want) {
            wrong++;
            System.out.println(what + " answered " + got + ", due is " + want);
        }
    }

    static void same(String what, String got, String want) {
        checks++;
        if (got == null ? want != null : !got.equals(want)) {
            wrong++;
            System.out.println(what + " answered " + got + ", due is " + want);
        }
    }

    static void end() {
        System.out.println(checks + " answers, " + wrong + " not as due");
        if (wrong != 0 || checks == 0) {
            System.exit(1);
        }
    }
}
