import java.util.ArrayList;
import java.util.List;

/**
 * A desk under test. Nothing is promised of a desk after its 512th call, so one that has used up its
 * calls is replaced by a new one to which the same letters are said again; looking changes nothing,
 * and is not repeated.
 */
final class Tester {
    static final int MOST_CALLS = 512;

    private enum Kind { TEXT, LINE, DROP }

    private record Change(Kind kind, long w) {
    }

    private static int checks = 0;
    private static int wrong = 0;
    private static int sentences = 0;
    private static int checksBefore = 0;
    private static String sentence = "";

    private final List<Change> changes = new ArrayList<>();
    private PolicyDesk desk = new PolicyDesk();
    private int calls = 0;

    /** Names the sentence of the document that the checks from here on hold the program to. */
    static void sentence(String words) {
        endSentence();
        sentence = words;
        sentences++;
        checksBefore = checks;
    }

    private static void endSentence() {
        if (sentences > 0 && checks == checksBefore) {
            wrong++;
            System.out.println("the test itself is wrong: nothing is checked for \"" + sentence + "\"");
        }
    }

    /** Packs up to eight letters as text(w) takes them, the first in the lowest octet. */
    static long pack(String letters) {
        long w = 0;
        for (int i = letters.length() - 1; i >= 0; i--) {
            w = w << 8 | letters.charAt(i);
        }
        return w;
    }

    int text(long w) {
        return change(new Change(Kind.TEXT, w));
    }

    int line() {
        return change(new Change(Kind.LINE, 0));
    }

    int drop() {
        return change(new Change(Kind.DROP, 0));
    }

    int cls(int c, int what) {
        return forALook().cls(c, what);
    }

    int member(int m, int what) {
        return forALook().member(m, what);
    }

    int audit(int k, int i) {
        return forALook().audit(k, i);
    }

    int below(int c, int d) {
        return forALook().below(c, d);
    }

    long total() {
        return forALook().total();
    }

    int count(int what) {
        return forALook().count(what);
    }

    private int change(Change change) {
        if (calls == MOST_CALLS) {
            sayAllAgain();
        }
        changes.add(change);
        return carryOut(change);
    }

    private int carryOut(Change change) {
        calls++;
        return switch (change.kind) {
            case TEXT -> desk.text(change.w);
            case LINE -> desk.line();
            case DROP -> desk.drop();
        };
    }

    private PolicyDesk forALook() {
        if (calls == MOST_CALLS) {
            sayAllAgain();
        }
        calls++;
        return desk;
    }

    private void sayAllAgain() {
        if (changes.size() >= MOST_CALLS) {
            throw new IllegalStateException("the test itself is wrong: it goes beyond the 512th call");
        }
        desk = new PolicyDesk();
        calls = 0;
        changes.forEach(this::carryOut);
    }

    /** Another desk to which the same was said. */
    Tester copy() {
        Tester copy = new Tester();
        changes.forEach(copy::change);
        return copy;
    }

    int callsLeft() {
        return MOST_CALLS - calls;
    }

    /** Lets the letters come to the LINE. */
    Tester type(String letters) {
        for (int i = 0; i < letters.length(); i += 8) {
            text(pack(letters.substring(i, Math.min(i + 8, letters.length()))));
        }
        return this;
    }

    int say(String line) {
        if (line.length() > 60) {
            throw new IllegalArgumentException("the test itself is wrong: no LINE is as long as " + line);
        }
        type(line);
        return line();
    }

    /** Says a LINE whose answer is known. */
    Tester due(String line, int answer) {
        same("[" + line + "]", say(line), answer);
        return this;
    }

    /** Says a LINE that has to be as said, whatever else its answer is. */
    Tester wellFormed(String line) {
        same("whether [" + line + "] is SYNTAX", say(line) == PolicyDesk.SYNTAX ? 1 : 0, 0);
        return this;
    }

    /** Says LINES whose answers do not matter here. */
    Tester given(String... lines) {
        for (String line : lines) {
            if (say(line) < 0) {
                same("[" + line + "] is meant to be accepted", 0, 1);
            }
        }
        return this;
    }

    /** Looks at the counts 0, 1, 2 and so on. */
    Tester counts(int... due) {
        for (int what = 0; what < due.length; what++) {
            same("count(" + what + ")", count(what), due[what]);
        }
        return this;
    }

    /** The k-th text of the audit before the latest, or null if there is none. */
    String audit(int k) {
        StringBuilder text = new StringBuilder();
        for (int letter = audit(k, 0); letter >= 0; letter = audit(k, text.length())) {
            text.append((char) letter);
        }
        return text.length() == 0 ? null : text.toString();
    }

    /** All that can be seen of the desk by looking at it. */
    String state() {
        StringBuilder state = new StringBuilder("total " + total() + " counts");
        for (int what = 0; what <= 7; what++) {
            state.append(' ').append(count(what));
        }
        for (int c = 0; c < count(0); c++) {
            state.append("\nclass");
            for (int what = 0; what <= 6; what++) {
                state.append(' ').append(cls(c, what));
            }
            for (int d = 0; d < count(0); d++) {
                state.append(' ').append(below(c, d));
            }
        }
        for (int m = 0; m < count(1); m++) {
            state.append("\nmember");
            for (int what = 0; what <= 3; what++) {
                state.append(' ').append(member(m, what));
            }
        }
        for (int k = 0; k < 13; k++) {
            state.append("\naudit ").append(audit(k));
        }
        return state.toString();
    }

    static void same(String what, long got, long want) {
        checks++;
        if (got != want) {
            tellWrong(what, String.valueOf(got), String.valueOf(want));
        }
    }

    static void same(String what, String got, String want) {
        checks++;
        if (got == null ? want != null : !got.equals(want)) {
            tellWrong(what, got, want);
        }
    }

    private static void tellWrong(String what, String got, String want) {
        wrong++;
        String where = sentence.isEmpty() ? "" : " (\"" + sentence + "\")";
        System.out.println(what + " answered " + got + ", due is " + want + where);
    }

    static void end() {
        endSentence();
        String held = sentences == 0 ? "" : sentences + " sentences, ";
        System.out.println(held + checks + " answers, " + wrong + " not as due");
        if (wrong != 0 || checks == 0) {
            System.exit(1);
        }
    }
}
