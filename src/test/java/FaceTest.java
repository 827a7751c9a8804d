import java.lang.reflect.Constructor;
import java.lang.reflect.Field;
import java.lang.reflect.Method;
import java.lang.reflect.Modifier;
import java.util.TreeSet;

/** The public face of the document, and no more than it. */
public final class FaceTest {
    private static final String INDEX = "IndexOutOfBoundsException";
    private static final String ARGUMENT = "IllegalArgumentException";

    public static void main(String[] args) {
        TreeSet<String> due = new TreeSet<>();
        due.add("int root(int,int,long,int) " + INDEX + "," + ARGUMENT + ",IllegalStateException");
        due.add("void put(int,int,int) " + INDEX);
        due.add("boolean narrow(int,int,int,boolean) " + INDEX);
        due.add("boolean move(int,int,int) " + INDEX);
        due.add("boolean keep(int,int,int) " + INDEX);
        due.add("boolean seal(int,int,int) " + INDEX);
        due.add("boolean unseal(int,int,int) " + INDEX);
        due.add("boolean gate(int,int) " + INDEX);
        due.add("boolean build(int,int,int) " + INDEX);
        due.add("boolean subset(int,int) " + INDEX);
        due.add("long told(int,int) " + INDEX + "," + ARGUMENT);
        due.add("boolean reaches(int,int,int) " + INDEX + "," + ARGUMENT);
        due.add("int pack(int,long) " + ARGUMENT);
        due.add("long bound(int,int,boolean) ");
        due.add("long rounded(long,boolean) " + ARGUMENT);
        due.add("int grown() ");

        Check check = new Check();
        TreeSet<String> got = new TreeSet<>();
        TreeSet<String> names = new TreeSet<>();
        for (Method method : CapUnit.class.getDeclaredMethods()) {
            if (!Modifier.isPrivate(method.getModifiers())) {
                got.add(face(method));
                names.add(method.getName());
            }
        }
        check.same("the methods are " + got + "; that is so", got.equals(due), true);
        for (Method method : CapUnit.class.getDeclaredMethods()) {
            boolean hidden = Modifier.isPrivate(method.getModifiers());
            check.same(method + " bears a public name", hidden && names.contains(method.getName()), false);
        }
        for (Field field : CapUnit.class.getDeclaredFields()) {
            check.same(field + " is private", Modifier.isPrivate(field.getModifiers()), true);
        }
        Constructor<?>[] constructors = CapUnit.class.getDeclaredConstructors();
        check.same("constructors", constructors.length, 1);
        check.same("its parameters", constructors[0].getParameterCount(), 0);
        check.same("it is public", Modifier.isPublic(constructors[0].getModifiers()), true);
        int modifiers = CapUnit.class.getModifiers();
        check.same("the class is public and final", Modifier.isPublic(modifiers) && Modifier.isFinal(modifiers), true);
        check.end();
    }

    private static String face(Method method) {
        return method.getReturnType() + " " + method.getName() + "("
                + names(method.getParameterTypes()) + ") " + names(method.getExceptionTypes());
    }

    private static String names(Class<?>[] types) {
        StringBuilder names = new StringBuilder();
        for (Class<?> type : types) {
            names.append(names.length() == 0 ? "" : ",").append(type.getSimpleName());
        }
        return names.toString();
    }
}
