import java.util.ArrayList;
import java.util.Comparator;
import java.util.List;
import java.util.Map;
import java.util.regex.Pattern;

/**
 * The document once more, word by word with the whole Java library and no thought of cost, so that
 * the program can be held against it. It shares no code and no way of working with the program:
 * the grammar is regular expressions, FOUND and BELOW are the document's own recursions.
 */
final class Model {
    private static final String PART = "[a-zA-Z0-9_$]+";
    private static final String NAME = "(?=[^ .;]{1,24}(?:[ .;]|/\\*|$))" + PART + "(?:/" + PART + ")*";
    private static final String MEMBER = NAME + "\\.[a-zA-Z0-9_$]{1,12}";
    private static final String TYPE = "\\[*(?:[IJFDZBCS]|L" + NAME + ";)";
    private static final String SHAPE = "\\((?:" + TYPE + ")*\\)(?:V|" + TYPE + ")";
    private static final String MARKS = "(?: (?:s|n|sn|ns))?";
    private static final String PATTERN = "(?:\\*\\*|" + NAME + "(?:/\\*\\*?)?)(?:\\.(?:\\*|" + PART + "))?";
    private static final Map<String, Pattern> FORMS = Map.ofEntries(
            form("class", NAME + "(?: : " + NAME + "(?: " + NAME + "){0,2})?"),
            form("interface", NAME + "(?: :(?: " + NAME + "){1,2})?"),
            form("field", MEMBER + " " + TYPE + MARKS),
            form("method", MEMBER + " " + SHAPE + MARKS),
            form("allow", PATTERN), form("deny", PATTERN),
            form("cost", PATTERN + " (?:0|[1-9][0-9]{0,2})"),
            form("shim", PATTERN + " " + MEMBER),
            form("new", NAME), form("cast", NAME), form("catch", NAME),
            form("get", MEMBER + " " + TYPE), form("call", MEMBER + " " + SHAPE));

    private record Cls(int number, String name, Cls above, boolean isInterface, List<Cls> faces) {
    }

    private record Mem(int number, Cls owner, String name, String shape, String marks) {
        boolean isMethod() {
            return shape.startsWith("(");
        }
    }

    private record Rule(int number, String verb, String pattern, int cost, Mem standIn) {
        String head() {
            return pattern.split("\\.")[0];
        }

        String tail() {
            return pattern.contains(".") ? pattern.split("\\.")[1] : "";
        }

        boolean namesMember() {
            return !tail().isEmpty() && !tail().equals("*");
        }

        String name() {
            return head().replaceAll("/?\\*+$", "");
        }

        int place() { // the lower the better
            return head().equals("**") ? 3 : head().endsWith("/**") ? 2 : head().endsWith("/*") ? 1 : 0;
        }

        boolean fits(Cls c) {
            return switch (place()) {
                case 0 -> c.name.equals(head());
                case 1 -> c.name.matches(Pattern.quote(name()) + "/" + PART);
                case 2 -> c.name.startsWith(name() + "/");
                default -> true;
            };
        }

        boolean fits(Cls c, Mem m) {
            return fits(c) && (tail().isEmpty() || m != null && (tail().equals("*") || tail().equals(m.name)));
        }
    }

    private static final Comparator<Rule> BETTER = Comparator.<Rule>comparingInt(r -> -r.place())
            .thenComparingInt(r -> r.name().length()).thenComparing(r -> r.namesMember())
            .thenComparing(r -> r.tail().equals("*")).thenComparingInt(r -> r.number);

    private final List<Cls> classes = new ArrayList<>();
    private final List<Mem> members = new ArrayList<>();
    private final List<Rule> rules = new ArrayList<>();
    private final List<String> texts = new ArrayList<>();
    private String letters = "";
    private long total;
    private int granted;
    private int syntax;
    private int decided;

    Model() {
        classes.add(new Cls(0, "Object", null, false, List.of()));
        classes.add(new Cls(1, "Budget", classes.get(0), false, List.of()));
    }

    private static Map.Entry<String, Pattern> form(String verb, String rest) {
        return Map.entry(verb, Pattern.compile(verb + " " + rest));
    }

    int text(long w) {
        StringBuilder more = new StringBuilder();
        for (int i = 0; i < 8 && (w >>> 8 * i & 255) != 0; i++) {
            more.append((char) (w >>> 8 * i & 255));
        }
        if (!more.toString().matches("[ -~]+")) {
            return PolicyDesk.SYNTAX;
        }
        if (letters.length() + more.length() > 60) {
            return PolicyDesk.FULL;
        }
        letters += more;
        return letters.length();
    }

    int line() {
        String line = letters;
        letters = "";
        String[] words = line.split(" ", -1);
        Pattern form = FORMS.get(words[0]);
        if (form == null || !form.matcher(line).matches()) {
            syntax++;
            return PolicyDesk.SYNTAX;
        }
        return switch (words[0]) {
            case "class", "interface" -> declare(words);
            case "field", "method" -> memberLine(words);
            case "allow", "deny", "cost", "shim" -> ruleLine(words);
            default -> ask(line, words);
        };
    }

    int drop() {
        int had = letters.length();
        letters = "";
        return had;
    }

    private Cls named(String name) {
        return classes.stream().filter(c -> c.name.equals(name)).findFirst().orElse(null);
    }

    private int declare(String[] words) {
        boolean isInterface = words[0].equals("interface");
        List<Cls> named = new ArrayList<>();
        for (int i = 3; i < words.length; i++) {
            named.add(named(words[i]));
        }
        if (named.contains(null)) {
            return PolicyDesk.UNKNOWN;
        }
        if (named(words[1]) != null) {
            return PolicyDesk.EXISTS;
        }
        Cls above = isInterface || named.isEmpty() ? classes.get(0) : named.remove(0);
        if (above.isInterface || named.stream().anyMatch(c -> !c.isInterface)
                || named.stream().distinct().count() < named.size()) {
            return PolicyDesk.KIND;
        }
        if (classes.size() == 14) {
            return PolicyDesk.FULL;
        }
        classes.add(new Cls(classes.size(), words[1], above, isInterface, named));
        return classes.size() - 1;
    }

    private int memberLine(String[] words) {
        String[] at = words[1].split("\\.");
        Cls owner = named(at[0]);
        if (owner == null) {
            return PolicyDesk.UNKNOWN;
        }
        if (declared(owner, at[1], words[2]) != null) {
            return PolicyDesk.EXISTS;
        }
        if ((at[1] + words[2]).equals("finalize()V")) {
            return PolicyDesk.KIND;
        }
        if (members.size() == 24) {
            return PolicyDesk.FULL;
        }
        members.add(new Mem(members.size(), owner, at[1], words[2], words.length > 3 ? words[3] : ""));
        return members.size() - 1;
    }

    private int ruleLine(String[] words) {
        Mem standIn = null;
        if (words[0].equals("shim")) {
            String[] at = words[2].split("\\.");
            standIn = members.stream().filter(m -> m.isMethod() && m.owner == named(at[0]) && m.name.equals(at[1]))
                    .findFirst().orElse(null);
            if (standIn == null) {
                return PolicyDesk.UNKNOWN;
            }
            if (!standIn.marks.contains("s")) {
                return PolicyDesk.KIND;
            }
        }
        if (rules.size() == 24) {
            return PolicyDesk.FULL;
        }
        int cost = words[0].equals("cost") ? Integer.parseInt(words[2]) : 0;
        rules.add(new Rule(rules.size(), words[0], words[1], cost, standIn));
        return rules.size() - 1;
    }

    private int ask(String line, String[] words) {
        int answer = judge(words);
        String outcome = switch (answer) {
            case PolicyDesk.UNKNOWN -> "unknown";
            case PolicyDesk.KIND -> "kind";
            case PolicyDesk.FORBIDDEN -> "forbidden";
            case PolicyDesk.DENIED -> "denied";
            default -> answer >= PolicyDesk.SHIM ? "shim " + (answer - PolicyDesk.SHIM) : "ok " + answer;
        };
        texts.add(texts.size() + " " + line + " " + outcome);
        if (answer >= 0) {
            granted++;
            total += answer >= PolicyDesk.SHIM ? 1 : answer;
        }
        return answer;
    }

    private int judge(String[] words) {
        String[] at = words[1].split("\\.");
        Cls c = named(at[0]);
        if (c == null) {
            return PolicyDesk.UNKNOWN;
        }
        Mem m = null;
        if (words.length == 3) {
            m = words[0].equals("call") ? method(c, at[1], words[2]) : field(c, at[1], words[2]);
            if (m == null) {
                return PolicyDesk.UNKNOWN;
            }
            c = m.owner;
        }
        if (words[0].equals("new") && c.isInterface) {
            return PolicyDesk.KIND;
        }
        if (words[0].equals("catch") && (isBelow(c, classes.get(1)) || isBelow(classes.get(1), c))) {
            return PolicyDesk.FORBIDDEN;
        }
        Rule shim = words[0].equals("call") ? best("shim", c, m) : null;
        Rule rule = shim != null ? shim : best("allow deny", c, m);
        decided += rule == null ? 0 : 1;
        if (shim != null) {
            return PolicyDesk.SHIM + shim.standIn.number;
        }
        boolean isNative = words[0].equals("call") && m.marks.contains("n");
        if (rule == null || rule.verb.equals("deny") || isNative && !rule.namesMember()) {
            return PolicyDesk.DENIED;
        }
        Rule cost = best("cost", c, m);
        return cost == null ? 1 : cost.cost;
    }

    private Rule best(String verbs, Cls c, Mem m) {
        return rules.stream().filter(r -> verbs.contains(r.verb) && r.fits(c, m)).max(BETTER).orElse(null);
    }

    private Mem declared(Cls c, String name, String shape) {
        return members.stream().filter(m -> m.owner == c && m.name.equals(name) && m.shape.equals(shape))
                .findFirst().orElse(null);
    }

    private Mem inFaces(Cls c, String name, String shape) {
        for (Cls face : c.faces) {
            Mem own = declared(face, name, shape);
            Mem found = own != null ? own : inFaces(face, name, shape);
            if (found != null) {
                return found;
            }
        }
        return null;
    }

    private Mem field(Cls c, String name, String type) {
        if (c == null || declared(c, name, type) != null) {
            return c == null ? null : declared(c, name, type);
        }
        Mem found = inFaces(c, name, type);
        return found != null ? found : field(c.above, name, type);
    }

    private Mem method(Cls c, String name, String shape) {
        List<Cls> chain = new ArrayList<>();
        for (Cls at = c; at != null; at = at.above) {
            chain.add(at);
        }
        List<Mem> found = new ArrayList<>();
        chain.forEach(at -> found.add(declared(at, name, shape)));
        chain.forEach(at -> found.add(inFaces(at, name, shape)));
        return found.stream().filter(m -> m != null).findFirst().orElse(null);
    }

    private boolean isBelow(Cls c, Cls d) {
        return c != null && (c == d || isBelow(c.above, d) || c.faces.stream().anyMatch(face -> isBelow(face, d)));
    }

    int cls(int c, int what) {
        if (c < 0 || c >= classes.size()) {
            return PolicyDesk.UNKNOWN;
        }
        Cls row = classes.get(c);
        return switch (what) {
            case 0 -> row.above == null ? -1 : row.above.number;
            case 1 -> row.isInterface ? 1 : 0;
            case 2 -> row.faces.size();
            case 3, 4 -> row.faces.size() > what - 3 ? row.faces.get(what - 3).number : PolicyDesk.UNKNOWN;
            case 5 -> (int) members.stream().filter(m -> m.owner == row).count();
            case 6 -> row.name.length();
            default -> PolicyDesk.UNKNOWN;
        };
    }

    int member(int m, int what) {
        if (m < 0 || m >= members.size()) {
            return PolicyDesk.UNKNOWN;
        }
        Mem row = members.get(m);
        return switch (what) {
            case 0 -> row.owner.number;
            case 1 -> row.isMethod() ? 1 : 0;
            case 2 -> (row.marks.contains("s") ? 1 : 0) + (row.marks.contains("n") ? 2 : 0);
            case 3 -> row.name.length();
            default -> PolicyDesk.UNKNOWN;
        };
    }

    int audit(int k, int i) {
        if (k < 0 || k >= 12 || k >= texts.size()) {
            return PolicyDesk.UNKNOWN;
        }
        String text = texts.get(texts.size() - 1 - k);
        return i < 0 || i >= text.length() ? PolicyDesk.UNKNOWN : text.charAt(i);
    }

    int below(int c, int d) {
        if (Math.min(c, d) < 0 || Math.max(c, d) >= classes.size()) {
            return PolicyDesk.UNKNOWN;
        }
        return isBelow(classes.get(c), classes.get(d)) ? 1 : 0;
    }

    long total() {
        return total;
    }

    int count(int what) {
        return switch (what) {
            case 0 -> classes.size();
            case 1 -> members.size();
            case 2 -> rules.size();
            case 3 -> texts.size();
            case 4 -> granted;
            case 5 -> syntax;
            case 6 -> letters.length();
            case 7 -> decided;
            default -> PolicyDesk.SYNTAX;
        };
    }
}
