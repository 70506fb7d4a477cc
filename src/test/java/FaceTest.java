import java.lang.reflect.Constructor;
import java.lang.reflect.Field;
import java.lang.reflect.Method;
import java.lang.reflect.Modifier;
import java.util.Set;
import java.util.TreeSet;

/** The public face: what the document lists, and nothing else that others can see. */
public final class FaceTest {
    public static void main(String[] args) throws Exception {
        Check check = new Check();
        Class<?> face = TreeBuilder.class;
        check.due("the class", Modifier.toString(face.getModifiers()), "public final");
        check.due("its package", face.getPackageName(), "");

        Set<String> members = new TreeSet<>();
        for (Method method : face.getDeclaredMethods()) {
            if (!Modifier.isPrivate(method.getModifiers())) {
                members.add(method.toString());
            }
        }
        for (Constructor<?> constructor : face.getDeclaredConstructors()) {
            members.add(constructor.toString());
        }
        for (Field field : face.getDeclaredFields()) {
            if (!Modifier.isPrivate(field.getModifiers())) {
                members.add(field.toString());
            }
        }
        Set<String> due = new TreeSet<>(Set.of(
                "public TreeBuilder()",
                "public static final int TreeBuilder.NONE",
                "public boolean TreeBuilder.add(int)",
                "public boolean TreeBuilder.addAll(long)",
                "public int TreeBuilder.build()",
                "public int TreeBuilder.size()",
                "public int TreeBuilder.nodes()",
                "public int TreeBuilder.node(int,int) throws java.util.NoSuchElementException",
                "public int TreeBuilder.child(int,int) throws java.util.NoSuchElementException"));
        check.due("members", members, due);

        for (Class<?> inside : face.getDeclaredClasses()) {
            int modifiers = inside.getModifiers();
            boolean hidden = !Modifier.isPublic(modifiers) && !Modifier.isProtected(modifiers);
            check.due(inside + " is hidden and static", hidden && Modifier.isStatic(modifiers), true);
        }
        check.end();
    }
}
