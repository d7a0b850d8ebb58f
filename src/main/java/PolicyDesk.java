import java.util.ArrayList;

/**
 * A desk for a sandbox's policy: lines of text declare classes and members, allow and deny them by
 * patterns, give costs and stand-ins; other lines ask, and are answered, charged and audited.
 */
public final class PolicyDesk {
    public static final int SYNTAX = -1, UNKNOWN = -2, EXISTS = -3, KIND = -4, FULL = -5,
            FORBIDDEN = -6, DENIED = -7, SHIM = 10000;

    private static final int MOST_LETTERS = 60;
    private static final int NONE_ABOVE = -1;

    private final StringBuilder letters = new StringBuilder();
    private final Classes classes = new Classes();
    private final Members members = new Members();
    private final Rules rules = new Rules();
    private final Audit book = new Audit();
    private long spent;
    private int asks;
    private int granted;
    private int syntaxLines;
    private int decisions;

    public PolicyDesk() {
    }

    public int text(long w) {
        int more = lettersIn(w);
        if (more == 0) {
            return SYNTAX;
        }
        if (letters.length() + more > MOST_LETTERS) {
            return FULL;
        }
        for (int i = 0; i < more; i++) {
            letters.append((char) octet(w, i));
        }
        return letters.length();
    }

    public int line() {
        Line line = new Line(letters.toString());
        letters.setLength(0);
        Verb verb = Verb.of(line.word(0));
        if (verb == null || !Grammar.isAsSaid(line, verb)) {
            syntaxLines++;
            return SYNTAX;
        }
        switch (verb) {
            case CLASS:
                return declareClass(line, false);
            case INTERFACE:
                return declareClass(line, true);
            case FIELD:
            case METHOD:
                return declareMember(line);
            case ALLOW:
            case DENY:
            case COST:
            case SHIM:
                return declareRule(line, verb);
            default:
                return ask(line, verb);
        }
    }

    public int drop() {
        int had = letters.length();
        letters.setLength(0);
        return had;
    }

    public int cls(int c, int what) {
        ClassRow row = classes.at(c);
        if (row == null) {
            return UNKNOWN;
        }
        switch (what) {
            case 0:
                return numberOr(row.above, NONE_ABOVE);
            case 1:
                return row.isInterface ? 1 : 0;
            case 2:
                return (row.first == null ? 0 : 1) + (row.second == null ? 0 : 1);
            case 3:
                return numberOr(row.first, UNKNOWN);
            case 4:
                return numberOr(row.second, UNKNOWN);
            case 5:
                return members.ownedBy(row);
            case 6:
                return row.name.length();
            default:
                return UNKNOWN;
        }
    }

    public int member(int m, int what) {
        MemberRow row = members.at(m);
        if (row == null) {
            return UNKNOWN;
        }
        switch (what) {
            case 0:
                return row.owner.number;
            case 1:
                return row.isMethod ? 1 : 0;
            case 2:
                return row.marks;
            case 3:
                return row.name.length();
            default:
                return UNKNOWN;
        }
    }

    public int audit(int k, int i) {
        return book.letterAt(k, i);
    }

    public int below(int c, int d) {
        ClassRow lower = classes.at(c);
        ClassRow upper = classes.at(d);
        if (lower == null || upper == null) {
            return UNKNOWN;
        }
        return lower.isBelow(upper) ? 1 : 0;
    }

    public long total() {
        return spent;
    }

    public int count(int what) {
        switch (what) {
            case 0:
                return classes.size;
            case 1:
                return members.size;
            case 2:
                return rules.size;
            case 3:
                return asks;
            case 4:
                return granted;
            case 5:
                return syntaxLines;
            case 6:
                return letters.length();
            case 7:
                return decisions;
            default:
                return SYNTAX;
        }
    }

    /** How many letters stand in w before its first octet 0; 0 too if one of them is no letter. */
    private static int lettersIn(long w) {
        for (int i = 0; i < 8; i++) {
            int octet = octet(w, i);
            if (octet == 0) {
                return i;
            }
            if (octet < 32 || octet > 126) {
                return 0;
            }
        }
        return 8;
    }

    private static int octet(long w, int i) {
        return (int) (w >>> (8 * i)) & 255;
    }

    private static int numberOr(ClassRow row, int otherwise) {
        return row == null ? otherwise : row.number;
    }

    private int declareClass(Line line, boolean isInterface) {
        int firstFace = isInterface ? 3 : 4;
        boolean namesAbove = !isInterface && line.size > 3;
        ClassRow above = namesAbove ? classes.find(line.word(3)) : classes.object;
        ClassRow first = classes.find(line.word(firstFace));
        ClassRow second = classes.find(line.word(firstFace + 1));
        boolean lacksFirst = first == null && line.size > firstFace;
        boolean lacksSecond = second == null && line.size > firstFace + 1;
        if (above == null || lacksFirst || lacksSecond) {
            return UNKNOWN;
        }
        if (classes.find(line.word(1)) != null) {
            return EXISTS;
        }
        boolean sameTwice = first != null && first == second;
        if (above.isInterface || isPlainClass(first) || isPlainClass(second) || sameTwice) {
            return KIND;
        }
        return classes.add(line.word(1), isInterface, above, first, second);
    }

    private static boolean isPlainClass(ClassRow row) {
        return row != null && !row.isInterface;
    }

    private int declareMember(Line line) {
        ClassRow owner = classes.find(Grammar.beforeDot(line.word(1)));
        if (owner == null) {
            return UNKNOWN;
        }
        String name = Grammar.afterDot(line.word(1));
        String shape = line.word(2);
        if (members.declared(owner, name, shape) != null) {
            return EXISTS;
        }
        if (name.equals("finalize") && shape.equals("()V")) {
            return KIND;
        }
        return members.add(owner, name, shape, Grammar.marksOf(line.word(3)));
    }

    private int declareRule(Line line, Verb verb) {
        MemberRow standIn = null;
        if (verb == Verb.SHIM) {
            standIn = standInOf(line.word(2));
            if (standIn == null) {
                return UNKNOWN;
            }
            if (!standIn.isStatic()) {
                return KIND;
            }
        }
        int cost = verb == Verb.COST ? Grammar.costOf(line.word(2)) : 0;
        return rules.add(verb, line.word(1), cost, standIn);
    }

    private MemberRow standInOf(String word) {
        ClassRow owner = classes.find(Grammar.beforeDot(word));
        return owner == null ? null : members.firstMethod(owner, Grammar.afterDot(word));
    }

    private int ask(Line line, Verb verb) {
        boolean ofMember = verb == Verb.GET || verb == Verb.CALL;
        int answer = ofMember ? judgeMember(line, verb) : judgeClass(line, verb);
        book.write(asks, line.letters, answer);
        asks++;
        if (answer >= 0) {
            granted++;
            spent += answer >= SHIM ? 1 : answer;
        }
        return answer;
    }

    private int judgeClass(Line line, Verb verb) {
        ClassRow row = classes.find(line.word(1));
        if (row == null) {
            return UNKNOWN;
        }
        if (verb == Verb.NEW && row.isInterface) {
            return KIND;
        }
        if (verb == Verb.CATCH && classes.couldCatchBudget(row)) {
            return FORBIDDEN;
        }
        return weigh(row, null);
    }

    private int judgeMember(Line line, Verb verb) {
        ClassRow start = classes.find(Grammar.beforeDot(line.word(1)));
        if (start == null) {
            return UNKNOWN;
        }
        String name = Grammar.afterDot(line.word(1));
        String shape = line.word(2);
        boolean isCall = verb == Verb.CALL;
        MemberRow found = isCall ? members.findMethod(start, name, shape)
                : members.findField(start, name, shape);
        if (found == null) {
            return UNKNOWN;
        }
        RuleRow shim = isCall ? rules.best(Verb.SHIM, Verb.SHIM, found.owner, found) : null;
        if (shim != null && shim.standIn != null) {
            decisions++;
            return SHIM + shim.standIn.number;
        }
        return weigh(found.owner, found);
    }

    /** The answer of allow, deny and cost for a class, or for a member of it where one is given. */
    private int weigh(ClassRow row, MemberRow found) {
        RuleRow rule = rules.best(Verb.ALLOW, Verb.DENY, row, found);
        if (rule == null) {
            return DENIED;
        }
        decisions++;
        boolean isNative = found != null && found.isMethod && found.isNative();
        if (rule.verb == Verb.DENY || isNative && !rule.pattern.namesMember()) {
            return DENIED;
        }
        RuleRow price = rules.best(Verb.COST, Verb.COST, row, found);
        return price == null ? 1 : price.cost;
    }

    /** The first word of a LINE. */
    private enum Verb {
        CLASS("class"), INTERFACE("interface"), FIELD("field"), METHOD("method"),
        ALLOW("allow"), DENY("deny"), COST("cost"), SHIM("shim"),
        NEW("new"), CAST("cast"), CATCH("catch"), GET("get"), CALL("call");

        private static final Verb[] ALL = values();

        private final String word;

        Verb(String word) {
            this.word = word;
        }

        static Verb of(String word) {
            for (int i = 0; i < ALL.length; i++) {
                if (ALL[i].word.equals(word)) {
                    return ALL[i];
                }
            }
            return null;
        }
    }

    /** A LINE cut into its WORDS; without any if it is not as a LINE should be. */
    private static final class Line {
        private static final int MOST_WORDS = 6;

        final String letters;
        final int size;
        private final int[] starts = new int[MOST_WORDS + 1];

        Line(String letters) {
            this.letters = letters;
            this.size = cut(letters, starts);
        }

        /** Word i goes from starts[i] to the space before starts[i + 1]. */
        private static int cut(String letters, int[] starts) {
            int found = 0;
            for (int i = 0; i <= letters.length(); i++) {
                if (i < letters.length() && letters.charAt(i) != ' ') {
                    continue;
                }
                if (found == MOST_WORDS || i == starts[found]) {
                    return 0;
                }
                found++;
                starts[found] = i + 1;
            }
            return found;
        }

        /** Word i, or an empty text, which is never a word, where there is none. */
        String word(int i) {
            return i < 0 || i >= size ? "" : letters.substring(starts[i], starts[i + 1] - 1);
        }
    }

    /** What a LINE and its words may be. */
    private static final class Grammar {
        private static final int MOST_IN_NAME = 24;
        private static final int MOST_IN_MEMBER = 12;
        private static final int MOST_IN_COST = 3;
        private static final int NO_TYPE = -1;
        private static final String SIMPLE_TYPES = "IJFDZBCS";

        private Grammar() {
        }

        /** Whether the WORDS behind the verb are those that it asks for. */
        static boolean isAsSaid(Line line, Verb verb) {
            switch (verb) {
                case CLASS:
                    return isHeading(line, 6);
                case INTERFACE:
                    return isHeading(line, 5);
                case FIELD:
                    return isMember(line.word(1)) && isType(line.word(2)) && endsInMarks(line);
                case METHOD:
                    return isMember(line.word(1)) && isShape(line.word(2)) && endsInMarks(line);
                case ALLOW:
                case DENY:
                    return line.size == 2 && isPattern(line.word(1));
                case COST:
                    return line.size == 3 && isPattern(line.word(1)) && isCost(line.word(2));
                case SHIM:
                    return line.size == 3 && isPattern(line.word(1)) && isMember(line.word(2));
                case GET:
                    return line.size == 3 && isMember(line.word(1)) && isType(line.word(2));
                case CALL:
                    return line.size == 3 && isMember(line.word(1)) && isShape(line.word(2));
                default:
                    return line.size == 2 && isName(line.word(1));
            }
        }

        /** Whether behind the verb stands a NAME alone, or a NAME, a colon and NAMES. */
        private static boolean isHeading(Line line, int mostWords) {
            if (line.size > mostWords || !isName(line.word(1))) {
                return false;
            }
            if (line.size == 2) {
                return true;
            }
            for (int i = 3; i < line.size; i++) {
                if (!isName(line.word(i))) {
                    return false;
                }
            }
            return line.size > 3 && line.word(2).equals(":");
        }

        private static boolean endsInMarks(Line line) {
            return line.size == 3 || line.size == 4 && isMarks(line.word(3));
        }

        private static boolean isPartLetter(char c) {
            return c >= 'a' && c <= 'z' || c >= 'A' && c <= 'Z' || c >= '0' && c <= '9'
                    || c == '_' || c == '$';
        }

        private static boolean isPart(String s) {
            for (int i = 0; i < s.length(); i++) {
                if (!isPartLetter(s.charAt(i))) {
                    return false;
                }
            }
            return !s.isEmpty();
        }

        private static boolean isName(String s) {
            boolean inPart = false;
            for (int i = 0; i < s.length(); i++) {
                boolean isSlash = s.charAt(i) == '/';
                if (isSlash ? !inPart : !isPartLetter(s.charAt(i))) {
                    return false;
                }
                inPart = !isSlash;
            }
            return inPart && s.length() <= MOST_IN_NAME;
        }

        static String beforeDot(String s) {
            int dot = s.indexOf('.');
            return dot < 0 ? s : s.substring(0, dot);
        }

        static String afterDot(String s) {
            int dot = s.indexOf('.');
            return dot < 0 ? "" : s.substring(dot + 1);
        }

        private static boolean isMember(String s) {
            String own = afterDot(s);
            return own.length() <= MOST_IN_MEMBER && isPart(own) && isName(beforeDot(s));
        }

        // The PART of a PATTERN may be longer than that of a MEMBER: the document sets it no limit.
        private static boolean isPattern(String s) {
            String own = afterDot(s);
            if (s.indexOf('.') >= 0 && !own.equals("*") && !isPart(own)) {
                return false;
            }
            String head = beforeDot(s);
            int reach = Pattern.reachOf(head);
            return reach == Pattern.EVERY || isName(Pattern.nameOf(head, reach));
        }

        private static boolean isType(String s) {
            return typeEnd(s, 0) == s.length();
        }

        private static boolean isShape(String s) {
            if (!isAt(s, 0, '(')) {
                return false;
            }
            int at = 1;
            for (int i = 1; i < s.length() && at != NO_TYPE && !isAt(s, at, ')'); i++) {
                at = typeEnd(s, at);
            }
            if (!isAt(s, at, ')')) {
                return false;
            }
            boolean isVoid = isAt(s, at + 1, 'V') && s.length() == at + 2;
            return isVoid || typeEnd(s, at + 1) == s.length();
        }

        static boolean isAt(String s, int at, char c) {
            return at >= 0 && at < s.length() && s.charAt(at) == c;
        }

        /** The place behind the TYPE that begins at from, or NO_TYPE. */
        private static int typeEnd(String s, int from) {
            int at = from;
            while (at < s.length() && s.charAt(at) == '[') {
                at++;
            }
            if (at >= s.length()) {
                return NO_TYPE;
            }
            if (s.charAt(at) == 'L') {
                return nameTypeEnd(s, at + 1);
            }
            return SIMPLE_TYPES.indexOf(s.charAt(at)) < 0 ? NO_TYPE : at + 1;
        }

        private static int nameTypeEnd(String s, int from) {
            int at = from;
            while (at < s.length() && s.charAt(at) != ';') {
                at++;
            }
            return at < s.length() && isName(s.substring(from, at)) ? at + 1 : NO_TYPE;
        }

        private static boolean isMarks(String s) {
            return s.equals("s") || s.equals("n") || s.equals("sn") || s.equals("ns");
        }

        static int marksOf(String s) {
            return (s.indexOf('s') < 0 ? 0 : MemberRow.STATIC)
                    + (s.indexOf('n') < 0 ? 0 : MemberRow.NATIVE);
        }

        private static boolean isCost(String s) {
            if (s.isEmpty() || s.length() > MOST_IN_COST || s.length() > 1 && s.charAt(0) == '0') {
                return false;
            }
            for (int i = 0; i < s.length(); i++) {
                if (s.charAt(i) < '0' || s.charAt(i) > '9') {
                    return false;
                }
            }
            return true;
        }

        static int costOf(String s) {
            int cost = 0;
            for (int i = 0; i < s.length(); i++) {
                cost = cost * 10 + s.charAt(i) - '0';
            }
            return cost;
        }

        static boolean startsWith(String s, String start) {
            if (s.length() < start.length()) {
                return false;
            }
            for (int i = 0; i < start.length(); i++) {
                if (s.charAt(i) != start.charAt(i)) {
                    return false;
                }
            }
            return true;
        }

        static boolean endsWith(String s, String end) {
            return s.length() >= end.length() && s.substring(s.length() - end.length()).equals(end);
        }
    }

    /** A class or an INTERFACE. */
    private static final class ClassRow {
        final int number;
        final String name;
        final boolean isInterface;
        final ClassRow above;
        final ClassRow first;
        final ClassRow second;
        /** The INTERFACES that it has, with those that they have, in the order of a search. */
        final ArrayList<ClassRow> faces;
        private final int belowBits;
        private final int lastSlash;

        ClassRow(int number, String name, boolean isInterface,
                ClassRow above, ClassRow first, ClassRow second) {
            this.number = number;
            this.name = name;
            this.isInterface = isInterface;
            this.above = above;
            this.first = first;
            this.second = second;
            this.belowBits = 1 << number | bitsOf(above) | bitsOf(first) | bitsOf(second);
            this.lastSlash = lastSlashOf(name);
            this.faces = facesOf(first, second);
        }

        private static int bitsOf(ClassRow row) {
            return row == null ? 0 : row.belowBits;
        }

        private static int lastSlashOf(String name) {
            int last = -1;
            for (int i = 0; i < name.length(); i++) {
                if (name.charAt(i) == '/') {
                    last = i;
                }
            }
            return last;
        }

        private static ArrayList<ClassRow> facesOf(ClassRow first, ClassRow second) {
            ArrayList<ClassRow> faces = new ArrayList<>();
            addWithItsOwn(faces, first);
            addWithItsOwn(faces, second);
            return faces;
        }

        private static void addWithItsOwn(ArrayList<ClassRow> faces, ClassRow face) {
            if (face == null) {
                return;
            }
            addOnce(faces, face);
            for (int i = 0; i < face.faces.size(); i++) {
                addOnce(faces, face.faces.get(i));
            }
        }

        // What is met twice is searched where it is met first, so the later place can be left out.
        private static void addOnce(ArrayList<ClassRow> faces, ClassRow face) {
            for (int i = 0; i < faces.size(); i++) {
                if (faces.get(i) == face) {
                    return;
                }
            }
            faces.add(face);
        }

        boolean isBelow(ClassRow other) {
            return (belowBits >> other.number & 1) == 1;
        }
    }

    /** All classes, by their numbers. */
    private static final class Classes {
        private static final int MOST = 14;

        final ClassRow object = new ClassRow(0, "Object", false, null, null, null);
        private final ClassRow budget = new ClassRow(1, "Budget", false, object, null, null);
        private final ClassRow[] rows = new ClassRow[MOST];
        int size;

        Classes() {
            rows[0] = object;
            rows[1] = budget;
            size = 2;
        }

        ClassRow at(int c) {
            return c < 0 || c >= size ? null : rows[c];
        }

        ClassRow find(String name) {
            for (int i = 0; i < size; i++) {
                if (rows[i].name.equals(name)) {
                    return rows[i];
                }
            }
            return null;
        }

        int add(String name, boolean isInterface, ClassRow above, ClassRow first, ClassRow second) {
            if (size >= MOST) {
                return FULL;
            }
            rows[size] = new ClassRow(size, name, isInterface, above, first, second);
            size++;
            return size - 1;
        }

        boolean couldCatchBudget(ClassRow row) {
            return budget.isBelow(row) || row.isBelow(budget);
        }
    }

    /** A field or a method; its shape is the TYPE of a field and the SHAPE of a method. */
    private static final class MemberRow {
        static final int STATIC = 1;
        static final int NATIVE = 2;

        final int number;
        final ClassRow owner;
        final String name;
        final String shape;
        final boolean isMethod;
        final int marks;

        MemberRow(int number, ClassRow owner, String name, String shape, int marks) {
            this.number = number;
            this.owner = owner;
            this.name = name;
            this.shape = shape;
            this.isMethod = shape.indexOf('(') == 0;
            this.marks = marks;
        }

        boolean isStatic() {
            return (marks & STATIC) != 0;
        }

        boolean isNative() {
            return (marks & NATIVE) != 0;
        }
    }

    /** All members, by their numbers, and how one is FOUND. */
    private static final class Members {
        private static final int MOST = 24;

        private final MemberRow[] rows = new MemberRow[MOST];
        int size;

        MemberRow at(int m) {
            return m < 0 || m >= size ? null : rows[m];
        }

        int add(ClassRow owner, String name, String shape, int marks) {
            if (size >= MOST) {
                return FULL;
            }
            rows[size] = new MemberRow(size, owner, name, shape, marks);
            size++;
            return size - 1;
        }

        int ownedBy(ClassRow owner) {
            int owned = 0;
            for (int i = 0; i < size; i++) {
                owned += rows[i].owner == owner ? 1 : 0;
            }
            return owned;
        }

        MemberRow firstMethod(ClassRow owner, String name) {
            for (int i = 0; i < size; i++) {
                if (rows[i].owner == owner && rows[i].isMethod && rows[i].name.equals(name)) {
                    return rows[i];
                }
            }
            return null;
        }

        // No TYPE is a SHAPE, so the shape alone tells fields and methods of one name apart.
        MemberRow declared(ClassRow owner, String name, String shape) {
            for (int i = 0; i < size; i++) {
                MemberRow row = rows[i];
                if (row.owner == owner && row.name.equals(name) && row.shape.equals(shape)) {
                    return row;
                }
            }
            return null;
        }

        MemberRow findField(ClassRow start, String name, String type) {
            for (ClassRow row = start; row != null; row = row.above) {
                MemberRow own = declared(row, name, type);
                MemberRow found = own != null ? own : declaredInFaces(row, name, type);
                if (found != null) {
                    return found;
                }
            }
            return null;
        }

        MemberRow findMethod(ClassRow start, String name, String shape) {
            for (ClassRow row = start; row != null; row = row.above) {
                MemberRow found = declared(row, name, shape);
                if (found != null) {
                    return found;
                }
            }
            for (ClassRow row = start; row != null; row = row.above) {
                MemberRow found = declaredInFaces(row, name, shape);
                if (found != null) {
                    return found;
                }
            }
            return null;
        }

        private MemberRow declaredInFaces(ClassRow row, String name, String shape) {
            for (int i = 0; i < row.faces.size(); i++) {
                MemberRow found = declared(row.faces.get(i), name, shape);
                if (found != null) {
                    return found;
                }
            }
            return null;
        }
    }

    /** A PATTERN. */
    private static final class Pattern {
        /** What stands for the class: every one, those inside, those right inside, that one. */
        static final int EVERY = 0, INSIDE = 1, DIRECT = 2, EXACT = 3;
        private static final int NOTHING = 0, ANY_MEMBER = 1, NAMED = 2;

        private final int reach;
        private final String name;
        private final int behind;
        private final String memberName;
        final int rank;

        Pattern(String word) {
            String head = Grammar.beforeDot(word);
            reach = reachOf(head);
            name = nameOf(head, reach);
            memberName = Grammar.afterDot(word);
            behind = word.indexOf('.') < 0 ? NOTHING : memberName.equals("*") ? ANY_MEMBER : NAMED;
            // Both kinds are numbered so that the better is the greater; a NAME is below 64 letters.
            rank = (reach * 64 + name.length()) * 4 + behind;
        }

        static int reachOf(String head) {
            if (head.equals("**")) {
                return EVERY;
            }
            if (Grammar.endsWith(head, "/**")) {
                return INSIDE;
            }
            return Grammar.endsWith(head, "/*") ? DIRECT : EXACT;
        }

        static String nameOf(String head, int reach) {
            switch (reach) {
                case EVERY:
                    return "";
                case INSIDE:
                    return head.substring(0, head.length() - 3);
                case DIRECT:
                    return head.substring(0, head.length() - 2);
                default:
                    return head;
            }
        }

        boolean namesMember() {
            return behind == NAMED;
        }

        /** Whether it FITS a class, or a member of it where one is given. */
        boolean fits(ClassRow row, MemberRow found) {
            if (behind != NOTHING && found == null) {
                return false;
            }
            if (behind == NAMED && !found.name.equals(memberName)) {
                return false;
            }
            switch (reach) {
                case EVERY:
                    return true;
                case INSIDE:
                    return Grammar.isAt(row.name, name.length(), '/')
                            && Grammar.startsWith(row.name, name);
                case DIRECT:
                    return row.lastSlash == name.length() && Grammar.startsWith(row.name, name);
                default:
                    return row.name.equals(name);
            }
        }
    }

    /** A RULE. */
    private static final class RuleRow {
        final Verb verb;
        final Pattern pattern;
        final int cost;
        final MemberRow standIn;

        RuleRow(Verb verb, Pattern pattern, int cost, MemberRow standIn) {
            this.verb = verb;
            this.pattern = pattern;
            this.cost = cost;
            this.standIn = standIn;
        }
    }

    /** All RULES, by their numbers. */
    private static final class Rules {
        private static final int MOST = 24;

        private final RuleRow[] rows = new RuleRow[MOST];
        int size;

        int add(Verb verb, String pattern, int cost, MemberRow standIn) {
            if (size >= MOST) {
                return FULL;
            }
            rows[size] = new RuleRow(verb, new Pattern(pattern), cost, standIn);
            size++;
            return size - 1;
        }

        /** The best of the RULES of these two verbs that FIT; of equals the later one. */
        RuleRow best(Verb one, Verb other, ClassRow row, MemberRow found) {
            RuleRow best = null;
            for (int i = 0; i < size; i++) {
                RuleRow rule = rows[i];
                boolean isMeant = rule.verb == one || rule.verb == other;
                boolean isBetter = best == null || rule.pattern.rank >= best.pattern.rank;
                if (isMeant && isBetter && rule.pattern.fits(row, found)) {
                    best = rule;
                }
            }
            return best;
        }
    }

    /** The latest texts of THE AUDIT, in rows of one array that are written over in turn. */
    private static final class Audit {
        private static final int MOST = 12;
        private static final int ROW = 96;

        private final char[] letters = new char[MOST * ROW];
        private final int[] lengths = new int[MOST];
        private final StringBuilder draft = new StringBuilder();
        private int kept;
        private int next;

        void write(int number, String line, int answer) {
            draft.setLength(0);
            draft.append(number).append(' ').append(line).append(' ').append(outcomeOf(answer));
            if (answer >= SHIM) {
                draft.append(answer - SHIM);
            } else if (answer >= 0) {
                draft.append(answer);
            }
            lengths[next] = Math.min(draft.length(), ROW);
            for (int i = 0; i < lengths[next]; i++) {
                letters[next * ROW + i] = draft.charAt(i);
            }
            next = (next + 1) % MOST;
            kept = Math.min(kept + 1, MOST);
        }

        private static String outcomeOf(int answer) {
            switch (answer) {
                case UNKNOWN:
                    return "unknown";
                case KIND:
                    return "kind";
                case FORBIDDEN:
                    return "forbidden";
                case DENIED:
                    return "denied";
                default:
                    return answer >= SHIM ? "shim " : "ok ";
            }
        }

        int letterAt(int k, int i) {
            if (k < 0 || k >= kept) {
                return UNKNOWN;
            }
            int row = Math.floorMod(next - 1 - k, MOST);
            return i < 0 || i >= lengths[row] ? UNKNOWN : letters[row * ROW + i];
        }
    }
}
