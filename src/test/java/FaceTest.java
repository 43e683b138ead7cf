import java.lang.reflect.Constructor;
import java.lang.reflect.Field;
import java.lang.reflect.Method;
import java.lang.reflect.Modifier;
import java.util.Arrays;
import java.util.Set;
import java.util.TreeSet;

/** The public face is the document's, and rule 1 of LANGUAGE.md holds. */
public final class FaceTest {
    private static final String[] FACE = {
        "void worth(int,int,int) IllegalArgumentException IllegalStateException",
        "int act(int) IllegalArgumentException IllegalStateException",
        "int resend(int) IllegalArgumentException IllegalStateException",
        "int deliver(int) IndexOutOfBoundsException",
        "int lose(int) IndexOutOfBoundsException",
        "int twin(int) IndexOutOfBoundsException IllegalStateException",
        "int letters()",
        "int letter(int,int) IndexOutOfBoundsException IllegalArgumentException",
        "int crew(int,int) IllegalArgumentException",
        "int known(int,int) IllegalArgumentException",
        "int desk(int,int) IllegalArgumentException",
        "boolean settled()",
        "int phase() IllegalStateException",
        "int total() IllegalStateException",
        "boolean proves() IllegalStateException",
        "int count(int) IllegalArgumentException",
    };

    private FaceTest() {
    }

    public static void main(String[] args) throws ReflectiveOperationException {
        Class<?> face = LetterAuction.class;
        Check.yes("public and final", Modifier.isPublic(face.getModifiers())
                && Modifier.isFinal(face.getModifiers()));
        methods(face);
        fields(face);
        constructors(face);
        for (Class<?> inner : face.getDeclaredClasses()) {
            Check.yes(inner + " is static", Modifier.isStatic(inner.getModifiers()));
            Check.no(inner + " is public or protected", (inner.getModifiers()
                    & (Modifier.PUBLIC | Modifier.PROTECTED)) != 0);
        }
        Check.end();
    }

    private static void methods(Class<?> face) {
        Set<String> seen = new TreeSet<>();
        Set<String> publicNames = new TreeSet<>();
        for (Method method : face.getDeclaredMethods()) {
            if (Modifier.isPublic(method.getModifiers())) {
                seen.add(describe(method));
                publicNames.add(method.getName());
            }
        }
        Check.same("public methods", seen, new TreeSet<>(Arrays.asList(FACE)));
        for (Method method : face.getDeclaredMethods()) {
            if (!Modifier.isPublic(method.getModifiers())) {
                Check.yes(method + " is private", Modifier.isPrivate(method.getModifiers()));
                Check.no(method + " bears a public name", publicNames.contains(method.getName()));
            }
        }
    }

    private static String describe(Method method) {
        StringBuilder text = new StringBuilder(method.getReturnType() + " " + method.getName() + "(");
        for (int i = 0; i < method.getParameterCount(); i++) {
            text.append(i == 0 ? "" : ",").append(method.getParameterTypes()[i]);
        }
        text.append(")");
        for (Class<?> thrown : method.getExceptionTypes()) {
            text.append(" ").append(thrown.getSimpleName());
        }
        return text.toString();
    }

    private static void fields(Class<?> face) throws ReflectiveOperationException {
        for (Field field : face.getDeclaredFields()) {
            boolean isNone = field.getName().equals("NONE");
            Check.same(field + " is public", Modifier.isPublic(field.getModifiers()), isNone);
            Check.same(field + " is private", Modifier.isPrivate(field.getModifiers()), !isNone);
        }
        Field none = face.getField("NONE");
        Check.yes("NONE is a constant", Modifier.isStatic(none.getModifiers())
                && Modifier.isFinal(none.getModifiers()));
        Check.is("NONE", none.getInt(null), -1);
    }

    private static void constructors(Class<?> face) {
        Constructor<?>[] all = face.getDeclaredConstructors();
        Check.is("constructors", all.length, 1);
        Check.same("the constructor", all[0].toString(), "public LetterAuction(int,int)");
    }
}
