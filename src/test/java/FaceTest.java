import java.lang.reflect.Constructor;
import java.lang.reflect.Executable;
import java.lang.reflect.Field;
import java.lang.reflect.Method;
import java.lang.reflect.Modifier;
import java.util.Arrays;
import java.util.TreeSet;

/** The public face of the document, and no other member that can be seen. */
public final class FaceTest {
    private static final String INDEX = "IndexOutOfBoundsException";
    private static final String ARGUMENT = "IllegalArgumentException";
    private static final String SUPPORT = "UnsupportedOperationException";
    private static final String ARITHMETIC = "ArithmeticException";

    private static final String[] FACE = {
        "void date(int,int,int,int) " + INDEX + "," + ARGUMENT,
        "void time(int,int,int,int,int) " + INDEX + "," + ARGUMENT,
        "long get(int,int) " + INDEX + "," + SUPPORT,
        "void with(int,int,long) " + INDEX + "," + SUPPORT + "," + ARGUMENT,
        "void plus(int,long,int) " + INDEX + "," + SUPPORT + "," + ARITHMETIC,
        "long until(int,int,int) " + INDEX + "," + SUPPORT + "," + ARITHMETIC,
        "int span(int,int,int) " + INDEX + "," + SUPPORT,
        "void adjust(int,int,int) " + INDEX + "," + ARGUMENT + "," + ARITHMETIC,
        "int copy(int,int) " + INDEX,
        "boolean zone(int,int) ",
        "boolean change(int,long,int) ",
        "boolean rule(int,int,int,int,int,int) ",
        "int offset(int,long) " + ARGUMENT,
        "long moment(int,int,boolean) " + INDEX + "," + ARGUMENT,
        "void show(int,int,long) " + INDEX + "," + ARGUMENT + "," + ARITHMETIC,
        "double julian(int) " + INDEX,
        "boolean type(char) ",
        "void parse(int) " + INDEX + "," + ARGUMENT,
        "int text(int,int) " + INDEX + "," + ARGUMENT,
    };

    public static void main(String[] args) {
        Class<?> desk = TimeDesk.class;
        Check.due("the class is public and final",
                desk.getModifiers() & (Modifier.PUBLIC | Modifier.FINAL), Modifier.PUBLIC | Modifier.FINAL);
        Check.due("what it extends", desk.getSuperclass(), Object.class);
        Check.due("what it implements", desk.getInterfaces().length, 0);
        Check.due("the public fields", desk.getFields().length, 0);
        Check.due("the public classes inside", desk.getClasses().length, 0);
        members(desk);
        classesInside(desk);
        Check.end();
    }

    private static void members(Class<?> desk) {
        TreeSet<String> got = new TreeSet<>();
        TreeSet<String> publicNames = new TreeSet<>();
        for (Method method : desk.getDeclaredMethods()) {
            if (!Modifier.isPrivate(method.getModifiers())) {
                got.add(method.getReturnType().getSimpleName() + " " + method.getName() + parameters(method)
                        + " " + names(method.getExceptionTypes()));
                publicNames.add(method.getName());
                Check.due(method.getName() + " is public", method.getModifiers(), Modifier.PUBLIC);
            }
        }
        Check.due("the methods", got, new TreeSet<>(Arrays.asList(FACE)));
        for (Method method : desk.getDeclaredMethods()) {
            if (Modifier.isPrivate(method.getModifiers())) {
                Check.due(method.getName() + " names a public method", publicNames.contains(method.getName()), false);
            }
        }
        for (Field field : desk.getDeclaredFields()) {
            Check.due(field.getName() + " is private", Modifier.isPrivate(field.getModifiers()), true);
        }
        Constructor<?>[] constructors = desk.getDeclaredConstructors();
        Check.due("the constructors", constructors.length, 1);
        Check.due("the constructor", Modifier.toString(constructors[0].getModifiers())
                + parameters(constructors[0]), "public()");
    }

    private static void classesInside(Class<?> desk) {
        TreeSet<String> publicNames = new TreeSet<>();
        for (Method method : desk.getMethods()) {
            publicNames.add(method.getName());
        }
        Check.due("at most twelve classes", desk.getDeclaredClasses().length < 12, true);
        for (Class<?> inside : desk.getDeclaredClasses()) {
            int seen = Modifier.PUBLIC | Modifier.PROTECTED;
            Check.due(inside + " is hidden", inside.getModifiers() & seen, 0);
            Check.due(inside + " is static", Modifier.isStatic(inside.getModifiers()), true);
            for (Method method : inside.getDeclaredMethods()) {
                Check.due(method + " bears a public name", publicNames.contains(method.getName()), false);
                Check.due(method + " takes at most seven", method.getParameterCount() <= 7, true);
            }
            for (Field field : inside.getDeclaredFields()) {
                boolean isState = Modifier.isStatic(field.getModifiers()) && !Modifier.isFinal(field.getModifiers());
                Check.due(field + " is static state", isState, false);
            }
        }
    }

    private static String parameters(Executable executable) {
        return "(" + names(executable.getParameterTypes()) + ")";
    }

    private static String names(Class<?>[] types) {
        StringBuilder all = new StringBuilder();
        for (Class<?> type : types) {
            all.append(all.length() == 0 ? "" : ",").append(type.getSimpleName());
        }
        return all.toString();
    }
}
