import java.lang.reflect.Constructor;
import java.lang.reflect.Field;
import java.lang.reflect.Method;
import java.lang.reflect.Modifier;
import java.util.TreeSet;

/** The public face has every member of the document with its exact head, and no other. */
public final class FaceTest {
    private static final String[] FACE = {
        "public boolean HazardRules.part(int,long,long)", "public boolean HazardRules.test(int,int)",
        "public boolean HazardRules.unit(int)", "public boolean HazardRules.way(boolean)",
        "public int HazardRules.cls(int)", "public int HazardRules.edition(long)",
        "public int HazardRules.explain(int,int,int)", "public int HazardRules.mark(int)",
        "public int HazardRules.missing(int)", "public int HazardRules.moving()",
        "public int HazardRules.open(int,int)", "public int HazardRules.read()", "public int HazardRules.run(long)",
        "public int HazardRules.table(int,int) throws java.lang.ArrayIndexOutOfBoundsException",
        "public int HazardRules.walk(long)", "public int HazardRules.write(int)",
        "public long HazardRules.limit(int)", "public long HazardRules.sum(int,int,int)",
        "public void HazardRules.clearParts()", "public HazardRules()",
        "public static final int HazardRules.NONE"
    };

    public static void main(String[] args) {
        TreeSet<String> due = new TreeSet<>(java.util.List.of(FACE));
        TreeSet<String> seen = new TreeSet<>();
        for (Method method : HazardRules.class.getDeclaredMethods()) {
            add(seen, method.getModifiers(), method.isSynthetic(), method.toString());
        }
        for (Constructor<?> constructor : HazardRules.class.getDeclaredConstructors()) {
            add(seen, constructor.getModifiers(), constructor.isSynthetic(), constructor.toString());
        }
        for (Field field : HazardRules.class.getDeclaredFields()) {
            add(seen, field.getModifiers(), field.isSynthetic(), field.toString());
        }
        for (String head : due) {
            Check.due("the face has " + head, seen.contains(head), true);
        }
        for (String head : seen) {
            Check.due("the document has " + head, due.contains(head), true);
        }
        int modifiers = HazardRules.class.getModifiers();
        Check.due("the class is public", Modifier.isPublic(modifiers), true);
        Check.due("the class is final", Modifier.isFinal(modifiers), true);
        Check.end();
    }

    private static void add(TreeSet<String> seen, int modifiers, boolean synthetic, String head) {
        if (!Modifier.isPrivate(modifiers) && !synthetic) {
            seen.add(head);
        }
    }
}
