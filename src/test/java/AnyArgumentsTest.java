import java.lang.reflect.InvocationTargetException;
import java.lang.reflect.Method;
import java.lang.reflect.Modifier;
import java.util.ArrayList;
import java.util.Comparator;
import java.util.List;
import java.util.Random;

/** No call throws, whatever it is told and whatever was called ahead of it, and all stays within its limits. */
public final class AnyArgumentsTest {
    private static final Due DUE = new Due("AnyArgumentsTest");
    private static final int[] EDGES = {Integer.MIN_VALUE, Integer.MIN_VALUE + 1, -1000000000, -65536, -10, -9, -2, -1,
        6, 7, 8, 9, 10, 11, 16, 17, 50, 51, 72, 73, 99, 100, 200, 201, 255, 256, 999, 1000, 9999, 10000, 65536,
        1 << 30, Integer.MAX_VALUE - 1, Integer.MAX_VALUE};
    private static final String[] STATEMENTS = {"n3;", "n5;", "f012;", "f104;", "o09;", "s10099;", "s20150;", "s30150;",
        "s40350;", "s5199;", "s61098;", "s7009;", "e0310;", "e1110;", "e299;", "e3150;", "e4220;", "x01;", "n", ";", "z"};

    public static void main(String[] args) throws IllegalAccessException {
        List<Method> face = new ArrayList<>();
        for (Method m : SmellInTheHouse.class.getDeclaredMethods()) {
            if (Modifier.isPublic(m.getModifiers())) {
                face.add(m);
            }
        }
        // The order of reflection is free: the runs are to be the same ones each time.
        face.sort(Comparator.comparing(Method::getName));
        for (int run = 0; run < 400; run++) {
            run(face, new Random(run), run);
        }
        DUE.end();
    }

    private static void run(List<Method> face, Random random, int run) throws IllegalAccessException {
        SmellInTheHouse x = new SmellInTheHouse();
        int calls = 0;
        while (calls < 440) {
            if (random.nextInt(12) == 0) {
                String statement = STATEMENTS[random.nextInt(STATEMENTS.length)];
                Due.feed(x, statement);
                calls += statement.length() + 1;
                x.house();
                continue;
            }
            Method m = face.get(random.nextInt(face.size()));
            Object[] told = new Object[m.getParameterCount()];
            for (int i = 0; i < told.length; i++) {
                told[i] = m.getParameterTypes()[i] == boolean.class ? (Object) random.nextBoolean() : number(random);
            }
            calls++;
            try {
                m.invoke(x, told);
            } catch (InvocationTargetException e) {
                DUE.is("run " + run + ": " + m.getName() + List.of(told) + " threw " + e.getCause(), 1, 0);
                return;
            }
        }
        boolean holds = x.count(0) >= 2 && x.count(0) <= 5 && x.count(1) >= 0 && x.count(1) <= 5 && x.count(2) >= 0
                && x.count(2) <= 4 && x.count(3) >= 0 && x.count(3) <= 9999 && x.count(4) >= 0 && x.count(4) <= 49995
                && x.count(5) >= 0 && x.count(5) <= 72 && x.count(6) >= 0 && x.count(6) <= 8 && x.count(15) == 0;
        DUE.is("run " + run + ": all is within its limits", holds ? 1 : 0, 1);
    }

    private static int number(Random random) {
        int of = random.nextInt(8);
        return of == 0 ? EDGES[random.nextInt(EDGES.length)] : of == 1 ? random.nextInt() : random.nextInt(6);
    }
}
