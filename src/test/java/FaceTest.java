import java.lang.reflect.Constructor;
import java.lang.reflect.Field;
import java.lang.reflect.Method;
import java.lang.reflect.Modifier;
import java.util.Set;
import java.util.TreeSet;

/** The class shows the document's face and nothing beside it. */
public final class FaceTest {
    private static final String BAD = " throws java.lang.IllegalArgumentException";
    private static final String STATE = ",java.lang.IllegalStateException";
    private static final String NONE = ",java.util.NoSuchElementException";

    public static void main(String[] args) {
        Class<?> face = AncestryNet.class;
        Expect.equal("the class's modifiers", Modifier.toString(face.getModifiers()), "public final");
        Set<String> due = new TreeSet<>(Set.of(
                "public AncestryNet()",
                "public int AncestryNet.add(int,int,int,int,int)" + BAD + STATE,
                "public int AncestryNet.under(int,int)" + BAD + STATE,
                "public void AncestryNet.tip(int,int,boolean)" + BAD,
                "public boolean AncestryNet.reaches(int,int)" + BAD));
        due.addAll(Set.of(
                "public int AncestryNet.base(int,int,int)" + BAD + NONE,
                "public int AncestryNet.log(int,int)" + BAD + NONE,
                "public int AncestryNet.back(int,int)" + BAD + NONE,
                "public int AncestryNet.sent(int,int)" + BAD + NONE,
                "public int AncestryNet.told(int,int)" + BAD,
                "public int AncestryNet.count(int)"));
        Expect.equal("the face", visibleMembers(face), due);
        Expect.end();
    }

    private static Set<String> visibleMembers(Class<?> face) {
        Set<String> members = new TreeSet<>();
        for (Constructor<?> constructor : face.getDeclaredConstructors()) {
            members.add(constructor.toString());
        }
        for (Method method : face.getDeclaredMethods()) {
            if (!Modifier.isPrivate(method.getModifiers()) && !method.isSynthetic()) {
                members.add(method.toString());
            }
        }
        for (Field field : face.getDeclaredFields()) {
            if (!Modifier.isPrivate(field.getModifiers()) && !field.isSynthetic()) {
                members.add(field.toString());
            }
        }
        return members;
    }
}
