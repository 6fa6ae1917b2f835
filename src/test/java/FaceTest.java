import java.lang.reflect.Constructor;
import java.lang.reflect.Field;
import java.lang.reflect.Method;
import java.lang.reflect.Modifier;
import java.util.Set;
import java.util.TreeSet;

/** That the class has the document's face, and nothing beside it that could be seen from outside. */
public final class FaceTest {
    private static final String[] FACE = {
        "public static final int RoyalUrTable.NONE",
        "public RoyalUrTable()",
        "public void RoyalUrTable.begin(int) throws java.lang.IllegalArgumentException",
        "public int RoyalUrTable.tell(int) throws java.lang.IllegalArgumentException,java.lang.IllegalStateException",
        "public int RoyalUrTable.move(int) throws java.lang.IllegalArgumentException,java.lang.IllegalStateException",
        "public int RoyalUrTable.turn()",
        "public int RoyalUrTable.marks()",
        "public int RoyalUrTable.winner()",
        "public int RoyalUrTable.at(int,int) throws java.lang.IllegalArgumentException",
        "public int RoyalUrTable.progress(int) throws java.lang.IllegalArgumentException",
        "public int RoyalUrTable.captured(int) throws java.lang.IllegalArgumentException",
        "public int RoyalUrTable.throwsTold()",
        "public int RoyalUrTable.moves()",
        "public int RoyalUrTable.moveAt(int)",
        "public boolean RoyalUrTable.captures(int) throws java.lang.IllegalArgumentException",
        "public int RoyalUrTable.worth(int) throws java.lang.IllegalArgumentException",
        "public double RoyalUrTable.chance(int) throws java.lang.IllegalArgumentException",
        "public int RoyalUrTable.ranked(int,int) throws java.lang.IllegalArgumentException",
        "public int RoyalUrTable.ending(int,int,int) throws java.lang.IllegalArgumentException",
        "public int RoyalUrTable.endingByThrows(int,int,int) throws java.lang.IllegalArgumentException",
    };

    public static void main(String[] args) {
        Checks checks = new Checks();
        Class<?> table = RoyalUrTable.class;
        checks.same("the class", Modifier.toString(table.getModifiers()), "public final");
        checks.same("its face", faceOf(table), new TreeSet<>(Set.of(FACE)));
        checks.same("NONE", RoyalUrTable.NONE, -1);
        Set<String> publicNames = new TreeSet<>();
        for (Method method : table.getMethods()) {
            if (method.getDeclaringClass() == table) {
                publicNames.add(method.getName());
            }
        }
        checks.same("private methods with a public one's name", hiddenWithNames(table, publicNames), Set.of());
        for (Class<?> inside : table.getDeclaredClasses()) {
            checks.same(inside + " is static", Modifier.isStatic(inside.getModifiers()), true);
            checks.same(inside + " is public or protected",
                    Modifier.isPublic(inside.getModifiers()) || Modifier.isProtected(inside.getModifiers()), false);
            checks.same(inside + " has a public one's name", hiddenWithNames(inside, publicNames), Set.of());
        }
        checks.finish("FaceTest");
    }

    private static Set<String> faceOf(Class<?> table) {
        Set<String> face = new TreeSet<>();
        for (Field field : table.getDeclaredFields()) {
            if (!Modifier.isPrivate(field.getModifiers())) {
                face.add(field.toString());
            }
        }
        for (Constructor<?> constructor : table.getDeclaredConstructors()) {
            if (!Modifier.isPrivate(constructor.getModifiers())) {
                face.add(constructor.toString());
            }
        }
        for (Method method : table.getDeclaredMethods()) {
            if (!Modifier.isPrivate(method.getModifiers())) {
                face.add(method.toString());
            }
        }
        return face;
    }

    private static Set<String> hiddenWithNames(Class<?> owner, Set<String> names) {
        Set<String> hidden = new TreeSet<>();
        for (Method method : owner.getDeclaredMethods()) {
            if (!Modifier.isPublic(method.getModifiers()) && names.contains(method.getName())) {
                hidden.add(method.getName());
            }
        }
        return hidden;
    }
}
