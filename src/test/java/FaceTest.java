import java.lang.reflect.Constructor;
import java.lang.reflect.Field;
import java.lang.reflect.Member;
import java.lang.reflect.Method;
import java.lang.reflect.Modifier;
import java.util.Arrays;
import java.util.Set;
import java.util.TreeSet;

/** The public face: just what the document lists, with its exceptions, and nothing else that is not private. */
public final class FaceTest {
    private static final String[] FACE = {
        "int row(int,int) IllegalStateException IllegalArgumentException",
        "boolean weight(int,int,long) IndexOutOfBoundsException IllegalArgumentException",
        "int add(int,int) IndexOutOfBoundsException IllegalStateException IllegalArgumentException ArithmeticException",
        "int times(int,int,int) IndexOutOfBoundsException IllegalStateException IllegalArgumentException"
            + " ArithmeticException",
        "long rest()",
        "int least(int,int,int) IndexOutOfBoundsException IllegalArgumentException ArithmeticException",
        "int span(int,int) IndexOutOfBoundsException",
        "int digit(int,int,int) IndexOutOfBoundsException",
        "int total(int,int) IndexOutOfBoundsException",
        "int compare(int,int,int,int) IndexOutOfBoundsException",
        "int about(int,int) IndexOutOfBoundsException IllegalArgumentException",
        "long over(long,long) ArithmeticException",
        "long written(int)",
        "int day(int,int,int,int) IndexOutOfBoundsException IllegalArgumentException",
        "int date(int,int,int) IndexOutOfBoundsException IllegalArgumentException",
        "int clear()",
    };

    public static void main(String[] args) {
        Class<?> face = YearFractions.class;
        Due.isTrue("the class is public and final", Modifier.isPublic(face.getModifiers())
            && Modifier.isFinal(face.getModifiers()));
        Due.is("NONE", -1, () -> YearFractions.NONE);
        Due.is("public constructors", 1, () -> face.getConstructors().length);
        checkMethods(face);
        checkFields(face);
        for (Constructor<?> made : face.getDeclaredConstructors()) {
            Due.isTrue("constructor " + made, Modifier.isPublic(made.getModifiers()) && made.getParameterCount() == 0);
        }
        Due.end("FaceTest");
    }

    private static void checkMethods(Class<?> face) {
        Set<String> found = new TreeSet<>();
        Set<String> names = new TreeSet<>();
        for (Method method : face.getDeclaredMethods()) {
            if (Modifier.isPublic(method.getModifiers())) {
                found.add(told(method));
                names.add(method.getName());
            } else {
                Due.isTrue(method + " is private", isHidden(method));
            }
        }
        Set<String> due = new TreeSet<>(Arrays.asList(FACE));
        Due.isTrue("public methods " + found, found.equals(due));
        for (Method method : face.getDeclaredMethods()) {
            Due.isTrue(method + " bears no public name",
                Modifier.isPublic(method.getModifiers()) || !names.contains(method.getName()));
        }
    }

    private static void checkFields(Class<?> face) {
        for (Field field : face.getDeclaredFields()) {
            Due.isTrue(field + " is private", field.getName().equals("NONE") || isHidden(field));
            Due.isTrue(field + " is final, if it is static",
                !Modifier.isStatic(field.getModifiers()) || Modifier.isFinal(field.getModifiers()));
        }
    }

    private static boolean isHidden(Member member) {
        return Modifier.isPrivate(member.getModifiers()) || member.isSynthetic();
    }

    private static String told(Method method) {
        StringBuilder text = new StringBuilder();
        text.append(method.getReturnType()).append(' ').append(method.getName()).append('(');
        for (int i = 0; i < method.getParameterCount(); i++) {
            text.append(i == 0 ? "" : ",").append(method.getParameterTypes()[i]);
        }
        text.append(')');
        for (Class<?> thrown : method.getExceptionTypes()) {
            text.append(' ').append(thrown.getSimpleName());
        }
        return text.toString();
    }
}
