import java.lang.reflect.Constructor;
import java.lang.reflect.Field;
import java.lang.reflect.Method;
import java.lang.reflect.Modifier;
import java.util.Set;
import java.util.TreeSet;

/** The face is the document's: its constants, constructor and methods, and no others that are not private. */
final class FaceTest {
    private static final String INDEX = "IndexOutOfBoundsException";
    private static final String ARGUMENT = "IllegalArgumentException";
    private static final String STATE = "IllegalStateException";

    public static void main(String[] args) {
        Set<String> face = new TreeSet<>();
        Set<String> hidden = new TreeSet<>();
        for (Field f : PlateModes.class.getDeclaredFields()) {
            put(face, hidden, f.getModifiers(), f.getName(), Modifier.toString(f.getModifiers()) + " " + f.getType() + " " + f.getName());
        }
        for (Constructor<?> c : PlateModes.class.getDeclaredConstructors()) {
            put(face, hidden, c.getModifiers(), "", "new" + names(c.getParameterTypes()) + names(c.getExceptionTypes()));
        }
        for (Method m : PlateModes.class.getDeclaredMethods()) {
            put(face, hidden, m.getModifiers(), m.getName(),
                m.getReturnType() + " " + m.getName() + names(m.getParameterTypes()) + names(m.getExceptionTypes()));
        }
        Set<String> due = Set.of("public static final int NONE", "new(int,int)()",
            "boolean wood(int,int,double)(" + INDEX + "," + ARGUMENT + ")",
            "void rates(double,double,double)(" + ARGUMENT + ")",
            "int brace(int,int,int,int,double)(" + INDEX + "," + ARGUMENT + "," + STATE + ")",
            "int modes(int)(" + ARGUMENT + ")",
            "double mode(int,int)(" + INDEX + "," + STATE + ")",
            "double shape(int,int,int)(" + INDEX + "," + STATE + ")",
            "double product(int,int)(" + INDEX + "," + STATE + ")",
            "boolean mirrored(boolean)()",
            "double coupled(int,double,double,boolean)(" + INDEX + "," + ARGUMENT + "," + STATE + ")",
            "double weight()()",
            "int want(int,double)(" + INDEX + "," + ARGUMENT + "," + STATE + ")",
            "int thin(double,double)(" + ARGUMENT + "," + STATE + ")",
            "double sum()(" + STATE + ")",
            "double tap(int,int,int,double)(" + INDEX + "," + ARGUMENT + "," + STATE + ")");
        Check.same("the face", face.toString(), new TreeSet<>(due).toString());
        Check.same("the class", Modifier.toString(PlateModes.class.getModifiers()), "public final");
        Check.same("NONE", PlateModes.NONE, -1);
        for (Method m : PlateModes.class.getDeclaredMethods()) {
            if (Modifier.isPublic(m.getModifiers())) {
                Check.same("a private method is named " + m.getName(), hidden.contains(m.getName()), false);
            }
        }
        for (Class<?> inside : PlateModes.class.getDeclaredClasses()) {
            Check.same(inside + " is static", Modifier.isStatic(inside.getModifiers()), true);
            Check.same(inside + " is public", Modifier.isPublic(inside.getModifiers()), false);
        }
        Check.finish("FaceTest");
    }

    private static void put(Set<String> face, Set<String> hidden, int modifiers, String name, String whole) {
        if (Modifier.isPrivate(modifiers)) {
            hidden.add(name);
        } else {
            face.add(whole);
        }
    }

    private static String names(Class<?>[] types) {
        StringBuilder all = new StringBuilder("(");
        for (Class<?> type : types) {
            all.append(all.length() == 1 ? "" : ",").append(type.getSimpleName());
        }
        return all.append(")").toString();
    }
}
