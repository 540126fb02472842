import java.lang.reflect.Constructor;
import java.lang.reflect.Field;
import java.lang.reflect.Method;
import java.lang.reflect.Modifier;
import java.util.Set;
import java.util.TreeSet;

/** "The public face": what the document lists, and no other member that is not private. */
public final class FaceTest {
    private static final Set<String> FACE = Set.of(
            "public static final int MoverHall.NONE",
            "public MoverHall()",
            "public int MoverHall.sector(int,int,int,int,int)",
            "public boolean MoverHall.join(int,int)",
            "public void MoverHall.reset()",
            "public void MoverHall.clear()",
            "public boolean MoverHall.begin(int,int)",
            "public int MoverHall.tag(int,int)",
            "public boolean MoverHall.enter(int)",
            "public int MoverHall.ticks(int)",
            "public int MoverHall.of(int,int)",
            "public boolean MoverHall.are(int,int)",
            "public boolean MoverHall.open(int,int)",
            "public int MoverHall.look(int)");

    public static void main(String[] args) {
        Set<String> found = new TreeSet<>();
        for (Field field : MoverHall.class.getDeclaredFields()) {
            keep(found, field.getModifiers(), field.isSynthetic(), field.toString());
        }
        for (Constructor<?> constructor : MoverHall.class.getDeclaredConstructors()) {
            keep(found, constructor.getModifiers(), constructor.isSynthetic(), constructor.toString());
        }
        for (Method method : MoverHall.class.getDeclaredMethods()) {
            keep(found, method.getModifiers(), method.isSynthetic(), method.toString());
        }
        Check check = new Check();
        for (String member : FACE) {
            check.is("has " + member, found.contains(member), true);
        }
        for (String member : found) {
            check.is("is of the face: " + member, FACE.contains(member), true);
        }
        int modifiers = MoverHall.class.getModifiers();
        check.is("public and final", Modifier.isPublic(modifiers) && Modifier.isFinal(modifiers), true);
        check.done();
    }

    private static void keep(Set<String> found, int modifiers, boolean synthetic, String member) {
        if (!Modifier.isPrivate(modifiers) && !synthetic) {
            found.add(member);
        }
    }
}
