import java.util.List;

/** The edges of a PATTERN: its form, and what it FITS. */
public final class EdgePatternTest {
    private static final int SYNTAX = PolicyDesk.SYNTAX;
    private static final int DENIED = PolicyDesk.DENIED;
    private static final String LONG24 = "abcdefghijklmnopqrstuv/x";
    private static final String LONG22 = "abcdefghijklmnopqrstuv";
    private static final String[] CLASSES = {"Object", "Budget", "p", "p/A", "p/A/B", "p/A/B/C", "pp", "pp/A", "q/p/A", "P/A", LONG24,
        LONG22, "p/AA"};

    public static void main(String[] args) {
        forms();
        everyOne();
        thatOne();
        oneMorePart();
        allInside();
        theLongestNames();
        nothingBehind();
        anyMember();
        aDotAndTheMembersName();
        theClassFirst();
        theClassThatItWasFoundIn();
        Tester.end();
    }

    private static void forms() {
        Tester.sentence("A PATTERN: ** ; or a NAME; or a NAME and /* ; or a NAME and /** ; and behind it nothing, or .* , or a dot and a PART.");
        String[] goodHeads = {"**", "a", "a/b", "a/*", "a/**", "a/b/*", "a/b/**"};
        String[] badHeads = {"", "*", "***", "/*", "/**", "a*", "a**", "a/***", "a/", "a//*", "a//**", "*/a", "**/a", "**/*", "**/**",
            "a/*/b", "a/**/b", "a/*/*", "a/**/*", "a/b*", "a/*b", "/a", "/", "(a)", "a-b"};
        String[] goodTails = {"", ".*", ".m", ".$"};
        String[] badTails = {".", ".**", ".m*", ".*m", ".m.n", ".*.*", ".*.m", ".m.*", ".m/n", "..m", ".m-", ".m,", ". m", ".()V"};
        for (String head : goodHeads) {
            for (String tail : goodTails) {
                form(head + tail, true);
            }
            for (String tail : badTails) {
                form(head + tail, false);
            }
        }
        for (String head : badHeads) {
            for (String tail : goodTails) {
                form(head + tail, false);
            }
        }
    }

    private static void form(String pattern, boolean isGood) {
        Tester tester = new Tester().given("method Object.s ()V s");
        int number = 0;
        for (String line : new String[] {"allow @", "deny @", "cost @ 7", "shim @ Object.s"}) {
            tester.due(line.replace("@", pattern), isGood ? number++ : SYNTAX);
        }
        tester.counts(2, 1, number, 0, 0, isGood ? 0 : 4);
    }

    /** Holds that the pattern FITS just these classes, and the member m of them where it may have one. */
    private static void fits(String pattern, String... classes) {
        List<String> fitting = List.of(classes);
        Tester tester = new Tester();
        for (int c = 2; c < CLASSES.length; c++) {
            tester.given("class " + CLASSES[c]);
        }
        tester.given("allow " + pattern, "cost " + pattern + " 7");
        for (String name : CLASSES) {
            int answer = fitting.contains(name) ? 7 : DENIED;
            tester.due("new " + name, answer).due("cast " + name, answer);
            Tester member = tester.copy().given("field " + name + ".m I", "method " + name + ".m ()V");
            member.due("get " + name + ".m I", answer).due("call " + name + ".m ()V", answer);
        }
    }

    private static void everyOne() {
        Tester.sentence("It FITS a class: ** every one");
        fits("**", CLASSES);
    }

    private static void thatOne() {
        Tester.sentence("a NAME that one");
        fits("p", "p");
        fits("p/A", "p/A");
        fits("p/A/B", "p/A/B");
        fits("pp", "pp");
        fits("Object", "Object");
        fits("Budget", "Budget");
        fits("A");
        fits("P");
        fits("object");
        fits("p/B");
    }

    private static void oneMorePart() {
        Tester.sentence("/* those whose names are that NAME, /, and one PART");
        fits("p/*", "p/A", "p/AA");
        fits("p/A/*", "p/A/B");
        fits("p/A/B/*", "p/A/B/C");
        fits("p/A/B/C/*");
        fits("pp/*", "pp/A");
        fits("q/*");
        fits("q/p/*", "q/p/A");
        fits("P/*", "P/A");
        fits("A/*");
        fits("ppp/*");
        fits("Object/*");
    }

    private static void allInside() {
        Tester.sentence("/** those whose names begin with that NAME and /.");
        fits("p/**", "p/A", "p/A/B", "p/A/B/C", "p/AA");
        fits("p/A/**", "p/A/B", "p/A/B/C");
        fits("p/A/B/**", "p/A/B/C");
        fits("p/A/B/C/**");
        fits("pp/**", "pp/A");
        fits("q/**", "q/p/A");
        fits("P/**", "P/A");
        fits("A/**");
        fits("ppp/**");
        fits("Object/**");
    }

    private static void theLongestNames() {
        Tester.sentence("A NAME: PARTS with / between them, at most 24 letters.");
        fits(LONG24, LONG24);
        fits(LONG22, LONG22);
        fits(LONG22 + "/*", LONG24);
        fits(LONG22 + "/**", LONG24);
        fits(LONG24 + "/*");
        fits(LONG24 + "/**");
        fits(LONG22.substring(1) + "/*");
        fits(LONG22.substring(0, 21) + "/**");
        fits(LONG22 + "/y");
    }

    /** Answers of the fields f and ff, the methods f and ff of the class p/A under one allow and one cost. */
    private static void members(String pattern, boolean f, boolean ff) {
        Tester tester = new Tester().given("class p/A", "class B : p/A", "field p/A.f I", "field p/A.ff I", "method p/A.f ()V",
                "method p/A.ff ()V", "allow " + pattern, "cost " + pattern + " 7");
        for (String name : new String[] {"p/A", "B"}) {
            tester.due("get " + name + ".f I", f ? 7 : DENIED).due("call " + name + ".f ()V", f ? 7 : DENIED)
                    .due("get " + name + ".ff I", ff ? 7 : DENIED).due("call " + name + ".ff ()V", ff ? 7 : DENIED);
        }
    }

    private static void nothingBehind() {
        Tester.sentence("It FITS a member of a class if it FITS the class, and has nothing behind it");
        members("**", true, true);
        members("p/A", true, true);
        members("p/*", true, true);
        members("p/**", true, true);
    }

    private static void anyMember() {
        Tester.sentence("and has nothing behind it, or .*");
        members("**.*", true, true);
        members("p/A.*", true, true);
        members("p/*.*", true, true);
        members("p/**.*", true, true);
    }

    private static void aDotAndTheMembersName() {
        Tester.sentence("or a dot and the member's name.");
        for (String head : new String[] {"**", "p/A", "p/*", "p/**"}) {
            members(head + ".f", true, false);
            members(head + ".ff", false, true);
            members(head + ".F", false, false);
            members(head + ".fff", false, false);
            members(head + ".A", false, false);
            members(head + ".I", false, false);
        }
        members("**.abcdefghijklm", false, false); // longer than any member's name
    }

    private static void theClassFirst() {
        Tester.sentence("It FITS a member of a class if it FITS the class");
        for (String tail : new String[] {"", ".*", ".f", ".ff"}) {
            for (String head : new String[] {"p", "A", "Object", "q/*", "p/A/*", "p/A/**", "q/**", "A/**", "p/AA", "pp/*"}) {
                members(head + tail, false, false);
            }
        }
    }

    private static void theClassThatItWasFoundIn() {
        Tester.sentence("for a member (that was FOUND, and its class) all.");
        members("B", false, false);
        members("B.*", false, false);
        members("B.f", false, false);
        members("p/A.f", true, false);
        Tester tester = new Tester().given("class p/A", "class B : p/A", "method p/A.f ()V", "method p/A.s ()V s");
        for (String tail : new String[] {"", ".*", ".f"}) {
            tester.copy().given("shim B" + tail + " p/A.s").due("call B.f ()V", DENIED);
            tester.copy().given("shim p/A" + tail + " p/A.s").due("call B.f ()V", PolicyDesk.SHIM + 1);
        }
    }
}
