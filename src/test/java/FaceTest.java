import java.lang.reflect.Constructor;
import java.lang.reflect.Field;
import java.lang.reflect.Member;
import java.lang.reflect.Method;
import java.lang.reflect.Modifier;
import java.util.Set;
import java.util.TreeSet;

/** The public face, and nothing else that can be seen from outside. */
final class FaceTest {
    private static final Set<String> DUE = Set.of(
        "public WordForms()",
        "public int WordForms.kind(int)",
        "public int WordForms.by(int)",
        "public int WordForms.going(int,int)",
        "public boolean WordForms.reaches(int,long)",
        "public int WordForms.turned(int)",
        "public long WordForms.page(int,long)",
        "public int WordForms.paging(int,long,long)",
        "public boolean WordForms.goesOn(int)",
        "public int WordForms.register(int,int)");

    public static void main(String[] args) {
        Checks checks = new Checks("FaceTest");
        Set<String> seen = new TreeSet<>();
        for (Constructor<?> constructor : WordForms.class.getDeclaredConstructors()) {
            addIfSeen(seen, constructor, constructor.toString());
        }
        for (Method method : WordForms.class.getDeclaredMethods()) {
            addIfSeen(seen, method, method.toString());
        }
        for (Field field : WordForms.class.getDeclaredFields()) {
            addIfSeen(seen, field, field.toString());
            checks.due(field + " is final if static",
                !Modifier.isStatic(field.getModifiers()) || Modifier.isFinal(field.getModifiers()), true);
        }
        for (String member : DUE) {
            checks.due("has " + member, seen.contains(member), true);
        }
        for (String member : seen) {
            checks.due("document has " + member, DUE.contains(member), true);
        }
        int modifiers = WordForms.class.getModifiers();
        checks.due("public and final", Modifier.isPublic(modifiers) && Modifier.isFinal(modifiers), true);
        checks.due("no package", WordForms.class.getPackageName().isEmpty(), true);
        checks.end();
    }

    private static void addIfSeen(Set<String> seen, Member member, String text) {
        if (!Modifier.isPrivate(member.getModifiers())) {
            seen.add(text);
        }
    }
}
