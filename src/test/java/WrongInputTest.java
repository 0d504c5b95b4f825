import java.lang.reflect.InvocationTargetException;
import java.lang.reflect.Method;
import java.util.Arrays;
import java.util.Comparator;
import java.util.NoSuchElementException;
import java.util.Random;

/** Calls with any arguments in any state: none throws, but where the document says so. */
public final class WrongInputTest {
    private static final int[] EDGES = {Integer.MIN_VALUE, Integer.MIN_VALUE + 1, -101, -2, -1, 0, 1, 2, 5, 6, 8, 9, 10, 29,
        30, 31, 32, 40, 41, 50, 60, 61, 63, 64, 99, 100, 101, 400, 401, 940, 941, Integer.MAX_VALUE - 1,
        Integer.MAX_VALUE};
    private static final String[] TEXTS = {
        "land 10 10;cliff p 5 5 1 9;cliff q 0 0 40 9;cliff r 5 9 7 3;person a 5 4;person b 0 1;camp a 9 9;"
            + "move b 3 4 4;felt 5 4;snow 2 3;snow 7 0;",
        "land 2 2;person a 0 0;", "land 2 2;cliff p 0 0 1 1;", "", "snow 0 9;", "said a 0;owns b 1;",
        "not (lost or joint) and of a or worth>5", "echoes = 0", "\0\1\5", "\0\2\5\1\3\4", "land 5 5;cliff", "((((((((("};

    public static void main(String[] args) throws IllegalAccessException {
        Method[] face = Arrays.stream(EchoVale.class.getDeclaredMethods())
            .filter(m -> (m.getModifiers() & java.lang.reflect.Modifier.PUBLIC) != 0)
            .sorted(Comparator.comparing(Method::getName)).toArray(Method[]::new);
        Check.due("methods of the face", face.length, 41);
        for (int seed = 0; seed < 150; seed++) {
            run(face, new Random(seed), seed);
        }
        Check.finish("WrongInputTest");
    }

    private static void run(Method[] face, Random random, int seed) throws IllegalAccessException {
        EchoVale vale = new EchoVale();
        Check.valley(vale, TEXTS[0]);
        // A text is some ten calls; an object is used for at most 512.
        for (int calls = 20; calls < 490; calls++) {
            if (random.nextInt(6) == 0) {
                String text = damaged(TEXTS[random.nextInt(TEXTS.length)], random);
                Check.tape(vale, text);
                calls += 3 + text.length() / 20;
            }
            Method method = face[random.nextInt(face.length)];
            Object[] arguments = new Object[method.getParameterCount()];
            for (int i = 0; i < arguments.length; i++) {
                arguments[i] = argument(random);
            }
            Check.due("seed " + seed + " " + method.getName() + Arrays.toString(arguments) + " is answered",
                isAnswered(vale, method, arguments), true);
        }
    }

    private static int argument(Random random) {
        int kind = random.nextInt(3);
        return kind == 0 ? EDGES[random.nextInt(EDGES.length)] : kind == 1 ? random.nextInt(10) : random.nextInt(3);
    }

    private static String damaged(String text, Random random) {
        if (text.isEmpty() || random.nextInt(3) > 0) {
            return text;
        }
        int at = random.nextInt(text.length());
        String signs = "\0 ;<=>()a0z9\u00ff";
        return text.substring(0, at) + signs.charAt(random.nextInt(signs.length())) + text.substring(at + random.nextInt(2));
    }

    private static boolean isAnswered(EchoVale vale, Method method, Object[] arguments) throws IllegalAccessException {
        try {
            method.invoke(vale, arguments);
            return true;
        } catch (InvocationTargetException e) {
            boolean told = Arrays.asList(method.getExceptionTypes()).contains(NoSuchElementException.class);
            return told && e.getCause() instanceof NoSuchElementException;
        }
    }
}
