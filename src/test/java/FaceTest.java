import java.lang.reflect.Constructor;
import java.lang.reflect.Field;
import java.lang.reflect.Method;
import java.lang.reflect.Modifier;
import java.util.TreeSet;

/** The public face: the document's constants, constructor and methods, and nothing else that isn't private. */
public final class FaceTest {
    private static final String[] METHODS = {
        "int give(int,int)", "int take(int)", "int feed(int)", "int clear()", "int rule(int)", "int drop(int)",
        "int copy(int,int)", "int step(int,int)", "int build(int)", "int all(int)", "int some(int,int)",
        "int tried(int,int,int)", "int result(int)", "int failure(int,int,int)", "int causes(int)", "int root(int)",
        "int blamed(int)", "int trace(int,int)", "int seen(int,int)", "int users(int)", "int depth(int)",
        "int order(int)", "int unlike()", "int fresh()", "int forget(int)", "int told(int)", "int list(int,int)",
        "int put(int,int,long)", "long get(int,int)", "int move(int,int,int,int,int)", "int lay(int,int)",
        "int judge(int,int)", "int image()", "int undo()",
    };

    public static void main(String[] args) {
        Check.part("the face");
        Class<?> face = BuildEngine.class;
        Check.isTrue("the class is public and final",
            Modifier.isPublic(face.getModifiers()) && Modifier.isFinal(face.getModifiers()));
        constants(face);
        constructor(face);
        methods(face);
        for (Class<?> inner : face.getDeclaredClasses()) {
            Check.isTrue(inner.getName() + " is static and not public",
                Modifier.isStatic(inner.getModifiers()) && !Modifier.isPublic(inner.getModifiers())
                    && !Modifier.isProtected(inner.getModifiers()));
        }
        Check.end();
    }

    private static void constants(Class<?> face) {
        Check.due("NONE", BuildEngine.NONE, -1);
        Check.due("BAD", BuildEngine.BAD, -2);
        Check.due("STATE", BuildEngine.STATE, -3);
        Check.due("FULL", BuildEngine.FULL, -4);
        Check.due("NO", BuildEngine.NO, Long.MIN_VALUE);
        TreeSet<String> names = new TreeSet<>();
        for (Field field : face.getDeclaredFields()) {
            if (!Modifier.isPrivate(field.getModifiers())) {
                names.add(Modifier.toString(field.getModifiers()) + " " + field.getType() + " " + field.getName());
            }
            Check.isTrue(field.getName() + " is no static state",
                !Modifier.isStatic(field.getModifiers()) || Modifier.isFinal(field.getModifiers()));
        }
        String start = "public static final ";
        TreeSet<String> due = new TreeSet<>();
        for (String name : new String[] {"int NONE", "int BAD", "int STATE", "int FULL", "long NO"}) {
            due.add(start + name);
        }
        Check.isTrue("the constants are " + due + ", found " + names, names.equals(due));
    }

    private static void constructor(Class<?> face) {
        Constructor<?>[] all = face.getDeclaredConstructors();
        Check.isTrue("one public constructor without parameters", all.length == 1
            && Modifier.isPublic(all[0].getModifiers()) && all[0].getParameterCount() == 0);
    }

    private static void methods(Class<?> face) {
        TreeSet<String> due = new TreeSet<>(java.util.Arrays.asList(METHODS));
        TreeSet<String> found = new TreeSet<>();
        TreeSet<String> hidden = new TreeSet<>();
        TreeSet<String> names = new TreeSet<>();
        for (Method method : face.getDeclaredMethods()) {
            if (Modifier.isPrivate(method.getModifiers())) {
                hidden.add(method.getName());
                continue;
            }
            StringBuilder told = new StringBuilder();
            told.append(method.getReturnType()).append(' ').append(method.getName()).append('(');
            String between = "";
            for (Class<?> type : method.getParameterTypes()) {
                told.append(between).append(type);
                between = ",";
            }
            found.add(told.append(')').toString());
            names.add(method.getName());
            Check.isTrue(method.getName() + " is public and not static",
                Modifier.isPublic(method.getModifiers()) && !Modifier.isStatic(method.getModifiers()));
        }
        Check.isTrue("the methods are " + due + ", found " + found, found.equals(due));
        hidden.retainAll(names);
        Check.isTrue("no private method bears a public one's name: " + hidden, hidden.isEmpty());
    }
}
