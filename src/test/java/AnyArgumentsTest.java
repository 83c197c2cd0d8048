import java.lang.reflect.Method;
import java.lang.reflect.Modifier;
import java.util.Arrays;
import java.util.Comparator;

/**
 * LANGUAGE.md, rule 7: no call throws or fails to end, whatever it is told. Each call with each combination of numbers
 * at and beside the document's bounds, on new objects and on such as hold one of each thing; each answer is held against
 * the Model's.
 */
public final class AnyArgumentsTest {
    private static final int MIN = Integer.MIN_VALUE, MAX = Integer.MAX_VALUE, CALLS = 250;
    private static final int[] MANY = {MIN, MIN + 1, -1000001, -1000000, -21, -2, -1, 0, 1, 2, 3, 4, 7, 8, 11, 15, 16, 20,
        21, 23, 24, 50, 127, 128, 65535, 65536, 1000000, 1000001, MAX - 15, MAX};
    private static final int[] FEW = {MIN, -1, 0, 1, 3, 4, 5, 20, 21, MAX};
    private static final String[] SCENE = {"give 0 4", "give 1 -1000000", "rule 8 +00", "rule 9 +08+07", "rule 10 =07",
        "rule 11 +12", "rule 12 +11", "rule 13 =01%00", "some 127 0", "list 0 20", "put 0 1 77", "list 1 0", "list 2 5",
        "put 2 4 -9", "image", "give 0 5", "take 1", "drop 13", "forget 10", "rule 15 +00+08", "rule 16 +15+15",
        "some 258 0", "some 640 1", "feed 61", "feed 52", "feed 50"};

    private static BuildEngine engine;
    private static Model model;
    private static int calls;
    private static int scenes;

    public static void main(String[] args) throws ReflectiveOperationException {
        Method[] methods = BuildEngine.class.getDeclaredMethods();
        Arrays.sort(methods, Comparator.comparing(Method::getName));
        for (Method method : methods) {
            if (Modifier.isPublic(method.getModifiers())) {
                Check.part(method.getName());
                eachCombination(method);
            }
        }
        Check.end();
    }

    private static void eachCombination(Method method) throws ReflectiveOperationException {
        int count = method.getParameterCount();
        int[] numbers = count > 3 ? FEW : MANY;
        int[] at = new int[count];
        begin();
        boolean more = true;
        while (more) {
            long[] told = new long[count];
            for (int i = 0; i < count; i++) {
                told[i] = numbers[at[i]];
            }
            call(method.getName(), told);
            more = next(at, numbers.length);
        }
        looks();
    }

    /** Whether there is another combination. */
    private static boolean next(int[] at, int length) {
        for (int i = at.length - 1; i >= 0; i--) {
            at[i]++;
            if (at[i] < length) {
                return true;
            }
            at[i] = 0;
        }
        return false;
    }

    private static void begin() throws ReflectiveOperationException {
        engine = new BuildEngine();
        model = new Model();
        calls = 0;
        scenes++;
        if (scenes % 4 == 0) {
            return;
        }
        for (String line : SCENE) {
            String[] words = line.split(" ");
            if (words[0].equals("rule")) {
                for (char letter : words[2].toCharArray()) {
                    answered("feed", letter);
                }
                answered("rule", Long.parseLong(words[1]));
            } else {
                long[] told = new long[words.length - 1];
                for (int i = 0; i < told.length; i++) {
                    told[i] = Long.parseLong(words[i + 1]);
                }
                answered(words[0], told);
            }
        }
    }

    private static void call(String name, long... told) throws ReflectiveOperationException {
        if (calls == CALLS) {
            looks();
            begin();
        }
        calls++;
        answered(name, told);
    }

    /** What has become of it all. */
    private static void looks() throws ReflectiveOperationException {
        for (int what = 0; what < 11; what++) {
            answered("told", what);
        }
        for (int key = 0; key < 24; key++) {
            answered("result", key);
        }
        for (int list = 0; list < 4; list++) {
            for (int i = 0; i < 20; i += 3) {
                answered("get", list, i);
            }
        }
    }

    private static void answered(String name, long... told) throws ReflectiveOperationException {
        Class<?>[] types = new Class<?>[told.length];
        Object[] values = new Object[told.length];
        StringBuilder call = new StringBuilder(name);
        for (int i = 0; i < told.length; i++) {
            boolean isLong = name.equals("put") && i == 2;
            types[i] = isLong ? long.class : int.class;
            values[i] = isLong ? (Object) told[i] : (Object) (int) told[i];
            call.append(' ').append(told[i]);
        }
        Number got = (Number) BuildEngine.class.getDeclaredMethod(name, types).invoke(engine, values);
        Number want = (Number) Model.class.getDeclaredMethod(name, types).invoke(model, values);
        Check.due(call.toString(), got.longValue(), want.longValue());
    }
}
