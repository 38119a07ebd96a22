import java.lang.reflect.Constructor;
import java.lang.reflect.Field;
import java.lang.reflect.Method;
import java.lang.reflect.Modifier;
import java.util.Arrays;
import java.util.TreeSet;

/** The face: what the document lists, and no member more that others could see. */
public final class FaceTest {
    private static final String[] FACE = {
        "public final class SkyAdvisor",
        "public SkyAdvisor()",
        "public static final int SkyAdvisor.NONE",
        "public int SkyAdvisor.all(int) throws java.lang.IllegalArgumentException",
        "public int SkyAdvisor.pair(int,int,int) throws java.lang.IllegalArgumentException",
        "public int SkyAdvisor.set(int,int) throws java.lang.IllegalArgumentException",
        "public int SkyAdvisor.step(int) throws java.lang.IllegalArgumentException",
        "public int SkyAdvisor.told(int,int) throws java.lang.IllegalArgumentException",
        "public void SkyAdvisor.follow(int,boolean) throws java.lang.IllegalArgumentException",
        "public void SkyAdvisor.leave(int) throws java.lang.IllegalArgumentException",
        "public void SkyAdvisor.place(int,int,int,int) throws java.lang.IllegalArgumentException",
        "public void SkyAdvisor.speed(int,int,int,int) throws java.lang.IllegalArgumentException",
    };

    public static void main(String[] args) {
        TreeSet<String> seen = new TreeSet<>();
        seen.add(SkyAdvisor.class.toGenericString());
        for (Constructor<?> made : SkyAdvisor.class.getDeclaredConstructors()) {
            addSeen(seen, made.getModifiers(), made.toString());
        }
        for (Field field : SkyAdvisor.class.getDeclaredFields()) {
            addSeen(seen, field.getModifiers(), field.toString());
        }
        for (Method method : SkyAdvisor.class.getDeclaredMethods()) {
            addSeen(seen, method.getModifiers(), method.toString());
        }
        Due.same("the face", seen.toString(), new TreeSet<>(Arrays.asList(FACE)).toString());
        Due.same("NONE", SkyAdvisor.NONE, -1);
        Due.end();
    }

    private static void addSeen(TreeSet<String> seen, int modifiers, String text) {
        if (!Modifier.isPrivate(modifiers)) {
            seen.add(text);
        }
    }
}
