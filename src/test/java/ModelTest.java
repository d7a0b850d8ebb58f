import java.util.Random;

/** Runs of up to 512 calls, the same ones each time, on the program and on the model of the document. */
public final class ModelTest {
    private static final int RUNS = 1500;
    /** Each of these runs is cut short, so that calls are left in which to look at all of the desk. */
    private static final int LOOKED_AT = 5;
    private static final int SHORT = 300;
    private static final String[] NAMES = {"Object", "Budget", "a", "b", "a/b", "a/b/c", "a/bb", "ab", "I", "J", "a/J", "K/L", "E",
        "a/b/c/d", "abcdefghijkl/nopqrstuvwx"};
    private static final String[] BAD_NAMES = {"abcdefghijkl/nopqrstuvwxy", "a//b", "/a", "a/", "a.b", "*"};
    private static final String[] PARTS = {"f", "g", "m", "finalize", "f", "m", "twelve_12345", "thirteen_1234"};
    private static final String[] TYPES = {"I", "J", "I", "[I", "La/b;", "V", "[", "L;", "II"};
    private static final String[] SHAPES = {"()V", "(I)V", "()V", "(IJ)I", "(La/b;[[I)[J", "()", "(V)V", "()VV"};
    private static final String[] MARKS = {"", "", " s", " s", " n", " sn", " ns", " ss", " x"};
    private static final String[] COSTS = {"0", "1", "7", "10", "250", "999", "1000", "01", "x"};

    private final Random random;
    private final Tester desk = new Tester();
    private final Model model = new Model();
    private final StringBuilder calls = new StringBuilder();
    private final int silliness;
    private int left;

    private ModelTest(long seed, int calls) {
        random = new Random(seed);
        silliness = 2 + random.nextInt(40);
        left = calls;
    }

    public static void main(String[] args) {
        for (int run = 0; run < RUNS; run++) {
            if (run % LOOKED_AT == 0) {
                new ModelTest(run, SHORT).run().lookAtAll();
            } else {
                new ModelTest(run, Tester.MOST_CALLS).run();
            }
        }
        Tester.end();
    }

    private ModelTest run() {
        while (left > 0) {
            int dice = random.nextInt(100);
            if (dice < 88) {
                sayLine(random.nextInt(silliness) == 0 ? spoiled(anyLine()) : anyLine());
            } else if (dice < 90) {
                text(random.nextLong());
            } else if (dice < 92) {
                text(random.nextLong() & 0x7F7F7F7F7F7FL >>> random.nextInt(48));
            } else if (dice == 92) {
                same("drop()", desk.drop(), model.drop());
            } else {
                look();
            }
        }
        return this;
    }

    private void sayLine(String line) {
        if (left <= line.length()) { // there may be as many calls of text as letters
            look();
            return;
        }
        for (int i = 0; i < line.length();) {
            int end = Math.min(line.length(), i + 1 + random.nextInt(8));
            end = random.nextInt(4) == 0 ? end : Math.min(line.length(), i + 8);
            text(Tester.pack(line.substring(i, end)));
            i = end;
        }
        calls.append("[").append(line).append("] ");
        same("line()", desk.line(), model.line());
    }

    private void text(long w) {
        same("text(" + w + ")", desk.text(w), model.text(w));
    }

    private void look() {
        int a = random.nextInt(28) - 2;
        int b = random.nextInt(16) - 2;
        switch (random.nextInt(6)) {
            case 0 -> same("cls(" + a + ", " + b + ")", desk.cls(a, b), model.cls(a, b));
            case 1 -> same("member(" + a + ", " + b + ")", desk.member(a, b), model.member(a, b));
            case 2 -> same("audit(" + b + ", " + a + ")", desk.audit(b, a), model.audit(b, a));
            case 3 -> same("below(" + a + ", " + b + ")", desk.below(a, b), model.below(a, b));
            case 4 -> same("total()", desk.total(), model.total());
            default -> same("count(" + b + ")", desk.count(b), model.count(b));
        }
    }

    private void lookAtAll() {
        for (int a = -1; a < 26; a++) {
            for (int what = -1; what < 9; what++) {
                same("cls(" + a + ", " + what + ")", desk.cls(a, what), model.cls(a, what));
                same("member(" + a + ", " + what + ")", desk.member(a, what), model.member(a, what));
                same("count(" + what + ")", desk.count(what), model.count(what));
            }
            for (int b = -1; b < 15; b++) {
                same("below(" + a + ", " + b + ")", desk.below(a, b), model.below(a, b));
            }
            for (int i = -1; i < 85; i++) {
                same("audit(" + a + ", " + i + ")", desk.audit(a, i), model.audit(a, i));
            }
        }
        same("total()", desk.total(), model.total());
    }

    private void same(String call, long got, long want) {
        left--;
        Tester.same(got == want ? call : calls + call, got, want);
    }

    private String pick(String... of) {
        return of[random.nextInt(of.length)];
    }

    private String name() {
        return random.nextInt(3 * silliness) == 0 ? pick(BAD_NAMES) : pick(NAMES);
    }

    private String member() {
        return name() + "." + pick(PARTS);
    }

    private String pattern() {
        String head = random.nextInt(4) == 0 ? "**" : name() + pick("", "", "/*", "/**");
        return head + pick("", "", ".*", "." + pick(PARTS));
    }

    private String anyLine() {
        return switch (random.nextInt(20)) {
            case 0 -> "class " + name() + pick("", " : " + name(), " : " + name() + " " + pick("I", "J", "a/J", "K/L"),
                    " : Object " + pick("I", "J") + " " + pick("a/J", "K/L"));
            case 1 -> "interface " + pick(pick("I", "J", "a/J", "K/L"), name()) + pick("", " : " + pick("I", "J", "a/J"),
                    " : " + pick("I", "J", "a/J") + " " + pick("I", "J", "K/L"));
            case 2 -> "field " + member() + " " + pick(TYPES) + pick(MARKS);
            case 3, 4 -> "method " + member() + " " + pick(SHAPES) + pick(MARKS);
            case 5 -> pick("allow ", "deny ") + pattern();
            case 6 -> random.nextInt(3) == 0 ? "cost " + pattern() + " " + pick(COSTS) : "allow " + pattern();
            case 7 -> random.nextInt(2) == 0 ? "shim " + pattern() + " " + member() : "class " + name();
            case 8, 9, 10 -> pick("new ", "cast ", "catch ") + name();
            case 11, 12, 13, 14 -> "get " + member() + " " + pick(TYPES);
            default -> "call " + member() + " " + pick(SHAPES);
        };
    }

    private String spoiled(String line) {
        int at = random.nextInt(line.length());
        char letter = " *./:;[L()Vsn0aZ~!$_".charAt(random.nextInt(20));
        return switch (random.nextInt(4)) {
            case 0 -> line.substring(0, at) + line.substring(at + 1);
            case 1 -> line.substring(0, at) + letter + line.substring(at);
            case 2 -> line.substring(0, at) + letter + line.substring(at + 1);
            default -> line + pick(" ", " a", " s", " I", "x");
        };
    }
}
