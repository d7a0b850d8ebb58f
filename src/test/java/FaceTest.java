import java.lang.reflect.Member;
import java.lang.reflect.Modifier;
import java.util.ArrayList;
import java.util.List;
import java.util.TreeSet;

/** The class has the document's face, and no other member that is not private. */
public final class FaceTest {
    private static final String[] METHODS = {
        "public int PolicyDesk.audit(int,int)", "public int PolicyDesk.below(int,int)", "public int PolicyDesk.cls(int,int)",
        "public int PolicyDesk.count(int)", "public int PolicyDesk.drop()", "public int PolicyDesk.line()",
        "public int PolicyDesk.member(int,int)", "public int PolicyDesk.text(long)", "public long PolicyDesk.total()"};
    private static final String[] CONSTANTS = {
        "DENIED=-7", "EXISTS=-3", "FORBIDDEN=-6", "FULL=-5", "KIND=-4", "SHIM=10000", "SYNTAX=-1", "UNKNOWN=-2"};

    public static void main(String[] args) throws Exception {
        Class<?> face = PolicyDesk.class;
        Tester.same("public and final", face.getModifiers(), Modifier.PUBLIC | Modifier.FINAL);
        TreeSet<String> methods = new TreeSet<>();
        for (var method : face.getDeclaredMethods()) {
            if (isSeen(method)) {
                methods.add(method.toString());
            }
        }
        Tester.same("methods", methods.toString(), new TreeSet<>(List.of(METHODS)).toString());
        TreeSet<String> constants = new TreeSet<>();
        for (var field : face.getDeclaredFields()) {
            if (isSeen(field)) {
                Tester.same(field.getName(), field.toString(), "public static final int PolicyDesk." + field.getName());
                constants.add(field.getName() + "=" + field.getInt(null));
            }
        }
        Tester.same("constants", constants.toString(), new TreeSet<>(List.of(CONSTANTS)).toString());
        List<String> constructors = new ArrayList<>();
        for (var constructor : face.getDeclaredConstructors()) {
            constructors.add(constructor.toString());
        }
        Tester.same("constructors", constructors.toString(), "[public PolicyDesk()]");
        Tester.end();
    }

    private static boolean isSeen(Member member) {
        return !Modifier.isPrivate(member.getModifiers()) && !member.isSynthetic();
    }
}
