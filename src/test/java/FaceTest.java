import java.lang.reflect.Constructor;
import java.lang.reflect.Field;
import java.lang.reflect.Member;
import java.lang.reflect.Method;
import java.lang.reflect.Modifier;
import java.util.Arrays;
import java.util.TreeSet;

/** The class shows the document's face with its exceptions, and no more. */
public final class FaceTest {
    private static final String IAE = "IllegalArgumentException";
    private static final String IOOBE = "IndexOutOfBoundsException";
    private static final String ISE = "IllegalStateException";
    private static final String UOE = "UnsupportedOperationException";

    public static void main(String[] args) {
        TreeSet<String> due = new TreeSet<>(Arrays.asList(
                "int writer() " + UOE,
                "int note(int,int,int,int,int) " + IAE + " " + IOOBE + " " + UOE,
                "int correct(int,int) " + IAE + " " + IOOBE + " " + ISE + " " + UOE,
                "void strike(int,boolean) " + IAE + " " + ISE + " " + UOE,
                "int ask(int,int,int,int,int) " + IAE + " " + IOOBE,
                "int row(int,int) " + IAE,
                "int reading(int,int) " + IAE + " " + IOOBE + " " + ISE,
                "int gap(int,int) " + IOOBE,
                "int digest(int) " + IAE,
                "int noteAt(int,int) " + IAE,
                "int print() " + ISE,
                "int at(int) " + IOOBE,
                "int tick(int) " + IOOBE,
                "int count(int) " + IAE));
        Class<?> face = SceneTimes.class;
        Check.same("public final", face.getModifiers(), Modifier.PUBLIC | Modifier.FINAL);
        TreeSet<String> seen = new TreeSet<>();
        TreeSet<String> publicNames = new TreeSet<>();
        for (Method method : face.getDeclaredMethods()) {
            if (isSeen(method)) {
                seen.add(told(method));
                publicNames.add(method.getName());
            }
        }
        Check.same("the methods", seen.toString(), due.toString());
        for (Method method : face.getDeclaredMethods()) {
            if (!isSeen(method)) {
                Check.same(method.getName() + " bears a public name", publicNames.contains(method.getName()) ? 1 : 0, 0);
            }
        }
        for (Field field : face.getDeclaredFields()) {
            Check.same("field " + field.getName() + " is seen", isSeen(field) ? 1 : 0, 0);
        }
        Constructor<?>[] constructors = face.getDeclaredConstructors();
        Check.same("constructors", constructors.length, 1);
        Check.same("the constructor is public", constructors[0].getModifiers(), Modifier.PUBLIC);
        Check.same("its parameters", constructors[0].getParameterCount(), 0);
        Check.same("its exceptions", constructors[0].getExceptionTypes().length, 0);
        Check.same("what it is beside", face.getSuperclass().getSimpleName(), "Object");
        Check.same("what it implements", face.getInterfaces().length, 0);
        for (Class<?> inside : face.getDeclaredClasses()) {
            int modifiers = inside.getModifiers();
            Check.same(inside.getSimpleName() + " is static", Modifier.isStatic(modifiers) ? 1 : 0, 1);
            Check.same(inside.getSimpleName() + " is no part of the face",
                    modifiers & (Modifier.PUBLIC | Modifier.PROTECTED), 0);
        }
        Check.end();
    }

    private static boolean isSeen(Member member) {
        return !Modifier.isPrivate(member.getModifiers()) && !member.isSynthetic();
    }

    private static String told(Method method) {
        StringBuilder text = new StringBuilder(method.getReturnType().getSimpleName() + " " + method.getName() + "(");
        String comma = "";
        for (Class<?> parameter : method.getParameterTypes()) {
            text.append(comma).append(parameter.getSimpleName());
            comma = ",";
        }
        text.append(")");
        for (Class<?> exception : method.getExceptionTypes()) {
            text.append(" ").append(exception.getSimpleName());
        }
        return text.toString();
    }
}
