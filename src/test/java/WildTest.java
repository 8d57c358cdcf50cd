import java.lang.reflect.InvocationTargetException;
import java.lang.reflect.Method;
import java.lang.reflect.Modifier;
import java.util.Arrays;
import java.util.Comparator;
import java.util.List;
import java.util.Random;

/** Calls with numbers of every size, in states of every kind: none throws, and no object has a part in another's answers. */
public final class WildTest {
    private static final int[] WILD = {Integer.MIN_VALUE, Integer.MIN_VALUE + 1, -100, -2, -1, 0, 1, 2, 3, 4, 5, 8, 9, 10, 19, 20,
        30, 31, 32, 99, 100, 255, 256, 400, 511, 512, 1000, 1000000, 1 << 29, 1 << 30, Integer.MAX_VALUE - 1, Integer.MAX_VALUE};
    private static final int CALLS = 512;
    private static final int RUNS = 600;

    public static void main(String[] args) throws Exception {
        List<Method> face = Arrays.stream(RapTable.class.getDeclaredMethods())
                .filter(m -> Modifier.isPublic(m.getModifiers())).sorted(Comparator.comparing(Method::getName)).toList();
        int wrong = 0;
        long[] alone = new long[RUNS];
        for (int run = 0; run < RUNS; run++) {
            try {
                alone[run] = wildRun(face, run, null);
            } catch (InvocationTargetException e) {
                wrong++;
                System.out.println("run " + run + " threw " + e.getCause());
            }
        }
        RapTable other = new RapTable();
        for (int run = 0; run < RUNS && wrong == 0; run += 7) {
            if (alone[run] != wildRun(face, run, other)) {
                wrong++;
                System.out.println("run " + run + " answers otherwise beside another object");
            }
        }
        System.out.println(wrong == 0 ? RUNS + " wild runs are as due" : wrong + " wild runs are not as due");
        if (wrong != 0) {
            System.exit(1);
        }
    }

    // All answers of a run in one number; where there is another object, it is called, too, between the calls.
    private static long wildRun(List<Method> face, int run, RapTable other) throws Exception {
        Random random = new Random(run);
        RapTable x = new RapTable();
        int called = setUp(x, run % 4);
        long sum = 0;
        for (int i = called; i < CALLS; i++) {
            Method method = face.get(random.nextInt(face.size()));
            Object[] numbers = new Object[method.getParameterCount()];
            int tame = random.nextInt(3);
            for (int k = 0; k < numbers.length; k++) {
                int v = tame == 0 || random.nextInt(4) == 0 ? WILD[random.nextInt(WILD.length)] : random.nextInt(6);
                numbers[k] = method.getParameterTypes()[k] == boolean.class ? (Object) (v % 2 == 0) : (Object) v;
            }
            sum = 31 * sum + number(method.invoke(x, numbers));
            if (other != null) {
                method.invoke(other, numbers);
            }
        }
        return sum;
    }

    private static long number(Object answer) {
        return answer instanceof Boolean so ? so ? 1 : 0 : ((Number) answer).longValue();
    }

    private static int setUp(RapTable x, int kind) {
        if (kind == 0) {
            return 0;
        }
        if (kind == 1) {
            Edges.sitting(x);
            return 40;
        }
        return kind == 2 ? full(x) : fullOfWays(x);
    }

    private static int full(RapTable x) {
        x.room(9);
        for (int i = 0; i < 12; i++) {
            x.lead(i % 10, 1 + i % 9, 7 * i, 7 * i + 20);
        }
        for (int i = 0; i < 8; i++) {
            x.thing(9 - i);
            x.control(i % 3, i, i, 10 * i, 10 * i + 29, 100 * i + 1);
        }
        for (int i = 0; i < 40; i++) {
            x.move(17, 0, i % 2 == 0 ? 8 : 9, 2 * i);
        }
        for (int i = 0; i < 30; i++) {
            x.report(i % 9, i % 2, i % 2 == 0 ? i % 8 : (2 * i + 2) % 18, i % 10, i, 70 + i, i);
        }
        for (int i = 0; i < 9; i++) {
            x.trial(20 - i, 1 + i);
            x.hold(2 * i, (2 * i + 2) % 18, (2 * i + 5) % 18, 5 * i, 5 * i + 50);
            x.attend(i, 9 - i, i, 99 - i);
        }
        return 180;
    }

    private static int fullOfWays(RapTable x) {
        int called = full(x);
        Edges.tell(x, "way a swap left free left move left 2;way b call 9 away move right 20;way c ready right 20 wait 20;"
                + "way d dark 9 wait 20 wait 20 wait 20 wait 20 wait 20;way e wait 20 swap right swap left free right;"
                + "way f;way g ready left 1 dark 0;way h away call 1 call 5 move left 1 wait 3 free left;memory 20 20;");
        x.image(0);
        x.image(2);
        return called + 25;
    }

    private WildTest() {
    }
}
