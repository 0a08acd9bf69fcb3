import java.lang.reflect.Constructor;
import java.lang.reflect.Field;
import java.lang.reflect.Member;
import java.lang.reflect.Method;
import java.lang.reflect.Modifier;
import java.util.Set;
import java.util.TreeSet;

/** "The public face": the document's members, and none beside them that is not private. */
public final class FaceTest {
    private static final Set<String> FACE = Set.of(
            "int make(int,int) IllegalArgumentException IllegalStateException UnsupportedOperationException",
            "int pages(int) IllegalArgumentException",
            "int grow(int,int) IllegalArgumentException",
            "boolean fits(int,int,int) IllegalArgumentException",
            "long load(int,int,int,int) IllegalArgumentException IndexOutOfBoundsException",
            "void store(int,int,int,int,long) IllegalArgumentException IndexOutOfBoundsException",
            "void copy(int,int,int,int,int) IllegalArgumentException IndexOutOfBoundsException",
            "int sum(int,int,int) IllegalArgumentException IndexOutOfBoundsException");

    public static void main(String[] args) throws ReflectiveOperationException {
        Class<PagedBytes> face = PagedBytes.class;
        Check.isTrue("public class", Modifier.isPublic(face.getModifiers()));
        Check.isTrue("final class", Modifier.isFinal(face.getModifiers()));
        methods(face);
        constructors(face);
        fields(face);
        Check.end();
    }

    private static void methods(Class<?> face) {
        Set<String> seen = new TreeSet<>();
        Set<String> publicNames = new TreeSet<>();
        for (Method method : face.getDeclaredMethods()) {
            if (isOpen(method)) {
                seen.add(signature(method));
                publicNames.add(method.getName());
                Check.isTrue("public " + method, Modifier.isPublic(method.getModifiers()));
            }
        }
        Check.isTrue("the face " + seen, seen.equals(FACE));
        for (Method method : face.getDeclaredMethods()) {
            if (!isOpen(method)) {
                Check.isFalse(method + " bears a public name", publicNames.contains(method.getName()));
            }
        }
    }

    private static void constructors(Class<?> face) {
        Constructor<?>[] made = face.getDeclaredConstructors();
        Check.equal("constructors", made.length, 1);
        Check.isTrue("public constructor", Modifier.isPublic(made[0].getModifiers()));
        Check.equal("its parameters", made[0].getParameterCount(), 0);
    }

    private static void fields(Class<?> face) throws ReflectiveOperationException {
        for (Field field : face.getDeclaredFields()) {
            Check.isTrue("only NONE is open: " + field, !isOpen(field) || field.getName().equals("NONE"));
            if (Modifier.isStatic(field.getModifiers())) {
                Check.isTrue("final static " + field, Modifier.isFinal(field.getModifiers()));
            }
        }
        Field none = face.getField("NONE");
        Check.isTrue("NONE is static", Modifier.isStatic(none.getModifiers()));
        Check.isTrue("NONE is an int", none.getType() == int.class);
        Check.equal("NONE", none.getInt(null), -1);
    }

    private static boolean isOpen(Member member) {
        return !Modifier.isPrivate(member.getModifiers());
    }

    private static String signature(Method method) {
        StringBuilder text = new StringBuilder(method.getReturnType() + " " + method.getName() + "(");
        Class<?>[] parameters = method.getParameterTypes();
        for (int i = 0; i < parameters.length; i++) {
            text.append(i == 0 ? "" : ",").append(parameters[i]);
        }
        text.append(")");
        for (Class<?> thrown : method.getExceptionTypes()) {
            text.append(" ").append(thrown.getSimpleName());
        }
        return text.toString();
    }
}
