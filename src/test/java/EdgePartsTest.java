/** The edges of a PART, a NAME and a MEMBER, at every place of a LINE where one stands. */
public final class EdgePartsTest {
    private static final int SYNTAX = PolicyDesk.SYNTAX;
    private static final String[] WITH_NAME = {"class @", "class @ : Object", "class Z : @", "class Z : Object @",
        "class Z : Object I @", "class Z : Object @ I", "interface @", "interface @ : I", "interface Z : @",
        "interface Z : I @", "interface Z : @ I", "field @.f I", "field @.f I s", "field Object.f L@;", "field Object.f [L@;",
        "method @.m ()V", "method Object.m (L@;)V", "method Object.m (I[L@;J)V", "method Object.m ()L@;",
        "method Object.m ()[L@; sn", "allow @", "allow @.*", "allow @.m", "allow @/*", "allow @/*.*", "allow @/*.m",
        "allow @/**", "allow @/**.*", "allow @/**.m", "deny @", "deny @/**.m", "cost @ 1", "cost @/*.m 1",
        "shim @ Object.s", "shim @/**.* Object.s", "shim ** @.s", "new @", "cast @", "catch @", "get @.f I",
        "get Object.f L@;", "get Object.f [[L@;", "call @.m ()V", "call Object.m (L@;)V", "call Object.m ()L@;"};
    private static final String[] WITH_MEMBER = {"field @ I", "field @ [I ns", "method @ ()V", "method @ (I)I s",
        "shim ** @", "get @ I", "call @ ()V"};

    public static void main(String[] args) {
        lettersOfAPart();
        oneOrMore();
        slashesBetweenParts();
        nameOfTwentyFour();
        nameOfTwentyFourWithSlashes();
        partOfTwelve();
        aNameADotAndAPart();
        Tester.end();
    }

    private static Tester ready() {
        return new Tester().given("interface I", "method Object.s ()V s");
    }

    private static void check(String form, String part, boolean isGood) {
        String line = form.replace("@", part);
        if (isGood) {
            ready().wellFormed(line);
        } else {
            ready().due(line, SYNTAX);
        }
    }

    private static boolean isPartLetter(char c) {
        return "abcdefghijklmnopqrstuvwxyzABCDEFGHIJKLMNOPQRSTUVWXYZ0123456789_$".indexOf(c) >= 0;
    }

    private static void lettersOfAPart() {
        Tester.sentence("A PART is 1 or more of a-z, A-Z, 0-9, _ and $.");
        for (char c = 33; c <= 126; c++) {
            for (String form : new String[] {"class @", "class @b", "class b@", "class b@b", "class b/@", "class @/b",
                "field Object.@ I", "field Object.b@ I", "field Object.@b I", "get Object.f L@;", "new @b", "call b@.m ()V"}) {
                boolean isSlashBetween = c == '/' && form.contains("b@b");
                check(form, String.valueOf(c), isPartLetter(c) || isSlashBetween);
            }
            boolean isAny = c == '*';
            check("allow **.@", String.valueOf(c), isPartLetter(c) || isAny);
            check("allow **.b@", String.valueOf(c), isPartLetter(c));
            check("allow **.@b", String.valueOf(c), isPartLetter(c));
        }
    }

    private static void oneOrMore() {
        Tester.sentence("A PART is 1 or more of");
        for (String form : WITH_NAME) {
            check(form, "", false);
            check(form, "a", true);
        }
        for (String form : new String[] {"field Object.@ I", "method Object.@ ()V", "get Object.@ I", "call Object.@ ()V",
            "shim ** Object.@", "allow **.@", "deny a.@", "cost a/*.@ 1", "shim a/**.@ Object.s"}) {
            check(form, "", false);
            check(form, "a", true);
        }
    }

    private static void slashesBetweenParts() {
        Tester.sentence("A NAME: PARTS with / between them");
        for (String form : WITH_NAME) {
            for (String bad : new String[] {"/", "//", "/a", "a/", "a//b", "a/b/", "/a/b", "a/b//c", "a///b", "a\\b", "a:b"}) {
                check(form, bad, false);
            }
            for (String good : new String[] {"a/b", "a/b/c", "a/b/c/d/e/f/g/h/i/j/k/l", "$/_", "0/1"}) {
                check(form, good, true);
            }
        }
    }

    private static void nameOfTwentyFour() {
        Tester.sentence("at most 24 letters");
        for (String form : WITH_NAME) {
            for (int letters = 1; letters <= 30; letters++) {
                check(form, "a".repeat(letters), letters <= 24);
            }
        }
    }

    private static void nameOfTwentyFourWithSlashes() {
        Tester.sentence("PARTS with / between them, at most 24 letters");
        for (String form : WITH_NAME) {
            for (int letters = 3; letters <= 27; letters++) {
                check(form, "a/".repeat(letters / 2 - 1) + (letters % 2 == 0 ? "aa" : "a/a"), letters <= 24);
                check(form, "a/" + "b".repeat(letters - 2), letters <= 24);
                check(form, "b".repeat(letters - 2) + "/a", letters <= 24);
            }
        }
        Tester tester = new Tester().due("class a/a/a/a/a/a/a/a/a/a/a/aa", 2);
        Tester.same("letters of its name", tester.cls(2, 6), 24);
    }

    private static void partOfTwelve() {
        Tester.sentence("A MEMBER: a NAME, a dot, and a PART of at most 12 letters.");
        for (String form : WITH_MEMBER) {
            for (int letters = 1; letters <= 20; letters++) {
                check(form, "Object." + "f".repeat(letters), letters <= 12);
                check(form, "abcdefghijkl/nopqrstuvwx." + "f".repeat(letters), letters <= 12);
            }
        }
        Tester tester = new Tester().due("field Object.abcdefghijkl I", 0).due("field Object.abcdefghijk I", 1);
        Tester.same("letters of its name", tester.member(0, 3), 12);
        tester.due("get Object.abcdefghijkl I", PolicyDesk.DENIED).due("allow Object.abcdefghijkl", 0)
                .due("get Object.abcdefghijkl I", 1).due("get Object.abcdefghijk I", PolicyDesk.DENIED);
    }

    private static void aNameADotAndAPart() {
        Tester.sentence("A MEMBER: a NAME, a dot, and a PART");
        for (String form : WITH_MEMBER) {
            for (String bad : new String[] {"", ".", "Object", "Object.", ".f", "Object..f", "Object.f.", "Object.f.g", ".Object.f",
                "Object.f/g", "Object/f", "Object,f", "Object.*", "**.f", "Object/*.f", "a/.f", "/a.f", "a//b.f", "Object:f"}) {
                check(form, bad, false);
            }
            for (String good : new String[] {"Object.f", "a/b.f", "0.0", "$._"}) {
                check(form, good, true);
            }
        }
    }
}
