/** The edges of a LINE and its WORDS, and of text, line and drop. */
public final class EdgeLineTest {
    private static final int SYNTAX = PolicyDesk.SYNTAX;
    private static final int UNKNOWN = PolicyDesk.UNKNOWN;
    private static final int FULL = PolicyDesk.FULL;
    private static final String[] LINES = {"class A", "class A : Object", "interface K", "interface K : I",
        "field Object.g I", "field Object.g I s", "method Object.g ()V", "method Object.g ()V n", "allow **", "deny a/*",
        "cost ** 7", "shim ** Object.s", "new Object", "cast Object", "catch Object", "get Object.f I", "call Object.s ()V"};

    public static void main(String[] args) {
        aLineOfSixtyLetters();
        aTextThatWouldBeTooMuch();
        codesOfLetters();
        lettersBeforeTheFirstZero();
        theLowestIsZero();
        theLowestFirst();
        aRefusedTextLeavesTheLine();
        oneSpaceBetweenWords();
        noWords();
        theLineIsEmptyThen();
        dropOfEachLength();
        dropChangesNothingElse();
        Tester.end();
    }

    /** A LINE of that many letters that declares or asks for Object.m. */
    private static String shaped(String verb, int letters) {
        String start = verb + " Object.m (";
        return start + "I".repeat(letters - start.length() - 2) + ")V";
    }

    private static Tester ready() {
        return new Tester().given("interface I", "method Object.s ()V s", "field Object.f I");
    }

    private static void aLineOfSixtyLetters() {
        Tester.sentence("A LINE has at most 60 letters");
        for (int letters = 30; letters <= 60; letters++) {
            new Tester().due(shaped("method", letters), 0).due(shaped("call", letters - 2), PolicyDesk.DENIED);
            new Tester().due(shaped("call", letters), UNKNOWN);
        }
        Tester tester = new Tester().type(shaped("method", 60));
        Tester.same("a letter more", tester.text('V'), FULL);
        Tester.same("the LINE without it", tester.line(), 0);
    }

    private static void aTextThatWouldBeTooMuch() {
        Tester.sentence("FULL if there would be more than 60.");
        for (int had = 0; had <= 60; had++) {
            for (int more = 1; more <= 8; more++) {
                Tester tester = new Tester().type("a".repeat(had));
                boolean isFull = had + more > 60;
                Tester.same(more + " to " + had, tester.text(Tester.pack("b".repeat(more))), isFull ? FULL : had + more);
                Tester.same("count(6)", tester.count(6), isFull ? had : had + more);
            }
        }
    }

    private static void codesOfLetters() {
        Tester.sentence("SYNTAX if the lowest is 0, or one before the first 0 is not 32..126");
        for (int place = 0; place < 8; place++) {
            for (long code = 0; code < 256; code++) {
                long w = Tester.pack("aaaaaaaa") & ~(255L << 8 * place) | code << 8 * place;
                int due = code == 0 ? place : code >= 32 && code <= 126 ? 8 : 0;
                Tester tester = new Tester();
                Tester.same("code " + code + " at " + place, tester.text(w), due == 0 ? SYNTAX : due);
                Tester.same("count(6)", tester.count(6), due);
            }
        }
        Tester.same("all octets 126", new Tester().text(0x7E7E7E7E7E7E7E7EL), 8);
        Tester.same("all octets 32", new Tester().text(0x2020202020202020L), 8);
        for (long w : new long[] {-1, Long.MAX_VALUE, Long.MIN_VALUE + 97, 0x7F7F7F7F7F7F7F7FL, 0x1F1F1F1F1F1F1F1FL}) {
            Tester.same("text(" + w + ")", new Tester().text(w), w == Long.MIN_VALUE + 97 ? 1 : SYNTAX);
        }
    }

    private static void lettersBeforeTheFirstZero() {
        Tester.sentence("up to the first that is 0, come to the LINE: how many it has.");
        String letters = "new abcd";
        for (int before = 1; before <= 7; before++) {
            for (long behind : new long[] {0, 1, 31, 'x', 127, 128, 255}) {
                long w = Tester.pack(letters.substring(0, before));
                for (int place = before + 1; place < 8; place++) {
                    w |= behind << 8 * place;
                }
                Tester tester = new Tester();
                Tester.same(before + " before a 0, then " + behind, tester.text(w), before);
                Tester.same("all of it", tester.type(letters.substring(before)).line(), UNKNOWN);
                Tester.same("audit(0)", tester.audit(0), "0 new abcd unknown");
            }
        }
        Tester.same("no 0", new Tester().text(Tester.pack(letters)), 8);
    }

    private static void theLowestIsZero() {
        Tester.sentence("SYNTAX if the lowest is 0");
        for (long w : new long[] {0, 0x6100, 0x6161616161616100L, Long.MIN_VALUE, -256, 0x7F00, 1L << 32}) {
            Tester tester = new Tester().type("new Object");
            Tester.same("text(" + w + ")", tester.text(w), SYNTAX);
            Tester.same("count(6)", tester.count(6), 10);
            Tester.same("the LINE", tester.line(), PolicyDesk.DENIED);
            tester.type("a".repeat(60));
            Tester.same("text(" + w + ") to a full LINE", tester.text(w), SYNTAX);
        }
    }

    private static void theLowestFirst() {
        Tester.sentence("The letters in the 8 octets of w, the lowest first");
        String line = "get ab/cde/fgh/ijk.lmnopqrs [[Ltuv/wxyz/ABCDEF/GHIJKL;";
        for (int piece = 1; piece <= 8; piece++) {
            Tester tester = new Tester();
            for (int i = 0; i < line.length(); i += piece) {
                int end = Math.min(line.length(), i + piece);
                Tester.same("letters", tester.text(Tester.pack(line.substring(i, end))), end);
            }
            Tester.same("the LINE", tester.line(), UNKNOWN);
            Tester.same("audit(0)", tester.audit(0), "0 " + line + " unknown");
        }
    }

    private static void aRefusedTextLeavesTheLine() {
        Tester.sentence("SYNTAX if the lowest is 0, or one before the first 0 is not 32..126; FULL if there would be more than 60.");
        for (int letters = 53; letters <= 60; letters++) {
            Tester tester = new Tester().type(shaped("method", letters));
            for (int more = 61 - letters; more <= 8; more++) {
                Tester.same("too much", tester.text(Tester.pack("V".repeat(more))), FULL);
            }
            Tester.same("a letter that is none behind good ones", tester.text(0x7F5656L), SYNTAX);
            Tester.same("a letter that is none before good ones", tester.text(0x56561FL), SYNTAX);
            Tester.same("count(6)", tester.count(6), letters);
            Tester.same("the LINE", tester.line(), 0);
            tester.counts(2, 1, 0, 0, 0, 0, 0, 0);
        }
    }

    private static void oneSpaceBetweenWords() {
        Tester.sentence("WORDS with one space (32) between them.");
        for (String line : LINES) {
            ready().wellFormed(line);
            ready().due(" " + line, SYNTAX).due(line + " ", SYNTAX).due(" " + line + " ", SYNTAX).wellFormed(line);
            for (int at = line.indexOf(' '); at >= 0; at = line.indexOf(' ', at + 1)) {
                String before = line.substring(0, at);
                String behind = line.substring(at + 1);
                ready().due(before + "  " + behind, SYNTAX).due(before + "   " + behind, SYNTAX)
                        .due(before + behind, SYNTAX).due(before + "," + behind, SYNTAX)
                        .due(before + "!" + behind, SYNTAX).due(before + " ! " + behind, SYNTAX);
            }
        }
    }

    private static void noWords() {
        Tester.sentence("other ones, WORDS too few or too many, and what is not as said are SYNTAX");
        Tester tester = new Tester();
        Tester.same("an empty LINE", tester.line(), SYNTAX);
        Tester.same("once more", tester.line(), SYNTAX);
        Tester.same("count(5)", tester.count(5), 2);
        for (int spaces = 1; spaces <= 60; spaces++) {
            new Tester().due(" ".repeat(spaces), SYNTAX);
        }
        for (int words = 1; words <= 30; words++) {
            new Tester().due("a " .repeat(words).trim(), SYNTAX).due("new Object", PolicyDesk.DENIED);
        }
    }

    private static void theLineIsEmptyThen() {
        Tester.sentence("The LINE is done, and is empty then: its answer.");
        Tester tester = ready().given("shim Object.s Object.s", "deny Budget");
        Object[][] lines = {{"class A", 3}, {"class", SYNTAX}, {"new X", UNKNOWN}, {"class A", PolicyDesk.EXISTS},
            {"new I", PolicyDesk.KIND}, {"catch Budget", PolicyDesk.FORBIDDEN}, {"cast Budget", PolicyDesk.DENIED},
            {"call Object.s ()V", PolicyDesk.SHIM}, {"field A.f I", 2}, {"cost A 5", 2}, {"allow A", 3}, {"new A", 5},
            {"class B : X", UNKNOWN}, {"class B : I", PolicyDesk.KIND}, {shaped("method", 60), 3}};
        for (Object[] line : lines) {
            tester.due((String) line[0], (int) line[1]);
            Tester.same("count(6) behind [" + line[0] + "]", tester.count(6), 0);
            Tester.same("drop() behind [" + line[0] + "]", tester.drop(), 0);
            Tester.same("the first letter behind it", tester.text('x'), 1);
            tester.drop();
        }
        Tester full = new Tester();
        for (int number = 2; number < 14; number++) {
            full.due("class C" + number, number);
        }
        full.due("class D", FULL);
        Tester.same("count(6) behind FULL", full.count(6), 0);
    }

    private static void dropOfEachLength() {
        Tester.sentence("The LINE is empty: how many letters it had.");
        for (int letters = 0; letters <= 60; letters++) {
            Tester tester = new Tester().type("b".repeat(letters));
            Tester.same("drop()", tester.drop(), letters);
            Tester.same("count(6)", tester.count(6), 0);
            Tester.same("drop() again", tester.drop(), 0);
            tester.due("new Object", PolicyDesk.DENIED);
            Tester.same("audit(0)", tester.audit(0), "0 new Object denied");
        }
    }

    private static void dropChangesNothingElse() {
        Tester.sentence("The LINE is empty: how many letters it had.");
        Tester tester = ready().given("allow **", "cost ** 5", "new Object").due("foo", SYNTAX);
        String before = tester.state();
        tester.type("class A").drop();
        tester.drop();
        tester.text(0);
        Tester.same("what is seen", tester.state(), before);
        tester.due("new Object", 5).due("class A", 3);
    }
}
