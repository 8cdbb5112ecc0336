import java.lang.reflect.InvocationTargetException;
import java.lang.reflect.Method;
import java.lang.reflect.Modifier;
import java.util.ArrayList;
import java.util.Arrays;
import java.util.Comparator;
import java.util.List;
import java.util.Random;

/** Far more calls than an object is used for, with any arguments: only what is declared is ever thrown. */
public final class LongRunTest {
    private static final int RUNS = 20;
    private static final int CALLS = 20000;
    private static final int[] WILD = {-1, -2, Integer.MIN_VALUE, Integer.MAX_VALUE, 1 << 30, 299, 300, 301, 8, 65520};

    public static void main(String[] args) throws IllegalAccessException {
        Check check = new Check("LongRunTest");
        List<Method> methods = new ArrayList<>();
        for (Method method : Vaultgarden.class.getDeclaredMethods()) {
            if (Modifier.isPublic(method.getModifiers())) {
                methods.add(method);
            }
        }
        methods.sort(Comparator.comparing(Method::getName));
        for (int run = 0; run < RUNS; run++) {
            oneRun(check, methods, new Random(run));
        }
        comingAndGoing(check);
        check.end();
    }

    private static void oneRun(Check check, List<Method> methods, Random random) throws IllegalAccessException {
        Vaultgarden x = new Vaultgarden();
        for (int call = 0; call < CALLS; call++) {
            Method method = methods.get(random.nextInt(methods.size()));
            Object[] arguments = new Object[method.getParameterCount()];
            for (int i = 0; i < arguments.length; i++) {
                arguments[i] = argument(method.getParameterTypes()[i], random);
            }
            try {
                method.invoke(x, arguments);
                check.due("", "", "");
            } catch (InvocationTargetException e) {
                boolean isDeclared = Arrays.asList(method.getExceptionTypes()).contains(e.getCause().getClass());
                check.due(method.getName() + Arrays.toString(arguments) + " " + e.getCause(), isDeclared, true);
            }
        }
    }

    private static Object argument(Class<?> type, Random random) {
        if (type == boolean.class) {
            return random.nextBoolean();
        }
        if (type == char.class) {
            return (char) (random.nextBoolean() ? 'n' : random.nextInt(65536));
        }
        int kind = random.nextInt(10);
        if (kind == 0) {
            return WILD[random.nextInt(WILD.length)];
        }
        return kind == 1 ? random.nextInt(320) : kind == 2 ? random.nextInt(25) : random.nextInt(4);
    }

    /** More comings and goings than are kept, more epochs and more tokens than 512 calls can bring. */
    private static void comingAndGoing(Check check) {
        Vaultgarden x = new Vaultgarden();
        x.addUser(0);
        x.addUser(1);
        x.addGroup(0, 40);
        x.addFile(0, 0);
        x.write(0, 0, 0, 1);
        for (int i = 0; i < 2000; i++) {
            x.forget(0);
            Check.outcome(() -> x.join(0, 1));
            Check.outcome(() -> x.leave(0, 1, true));
            x.ask(0, 0, i % 100);
        }
        for (int i = 0; i < 400000; i++) {
            x.write(0, 0, 0, i);
            x.forget(0);
        }
        check.due("epoch(0)", x.epoch(0) >= 255, true);
        check.due("read(0, 0, 0)", x.read(0, 0, 0), 399999);
        check.due("isSound()", x.isSound(), true);
        check.due("canReadByGrants(0, 0, 0)", x.canReadByGrants(0, 0, 0), true);
    }
}
