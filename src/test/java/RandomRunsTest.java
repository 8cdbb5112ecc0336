import java.lang.reflect.InvocationTargetException;
import java.lang.reflect.Method;
import java.util.ArrayList;
import java.util.Arrays;
import java.util.Comparator;
import java.util.HashMap;
import java.util.List;
import java.util.Map;
import java.util.Random;
import java.util.TreeMap;

/** Runs of 512 calls, right and wrong ones, on a garden and on the model: each answer is the same. */
public final class RandomRunsTest {
    private static final int RUNS = 1200;
    /** Runs behind the others, in which the server spoils parts in such a way that the marks stay. */
    private static final int SLY_RUNS = 80;
    private static final int CALLS = 512;

    private static final TreeMap<String, int[]> outcomes = new TreeMap<>();
    /** How often a method threw an exception, by both names. */
    private static final TreeMap<String, Integer> thrown = new TreeMap<>();
    private static int sameMarks;
    private static int rewrittenSameMarks;

    public static void main(String[] args) throws Exception {
        Check check = new Check("RandomRunsTest");
        List<Method> methods = new ArrayList<>();
        for (Method method : Vaultgarden.class.getDeclaredMethods()) {
            if (java.lang.reflect.Modifier.isPublic(method.getModifiers())) {
                methods.add(method);
            }
        }
        methods.sort(Comparator.comparing(Method::getName));
        for (int run = 0; run < RUNS + SLY_RUNS; run++) {
            oneRun(check, methods, run);
        }
        // A run that never gets an answer of some kind would test nothing about it.
        for (Method method : methods) {
            int[] counts = outcomes.get(method.getName());
            check.due(method.getName() + " answered at times", counts[0] > 100, true);
            boolean isAlwaysAnswered = method.getExceptionTypes().length == 0;
            check.due(method.getName() + " threw at times", counts[1] > 50, !isAlwaysAnswered);
            for (Class<?> exception : method.getExceptionTypes()) {
                String told = method.getName() + " throws." + exception.getSimpleName();
                check.due(told + " at times", thrown.getOrDefault(told, 0) > 5, true);
            }
        }
        check.due("parts were spoiled and kept the mark at times", sameMarks > 100, true);
        check.due("such parts were written anew at times", rewrittenSameMarks > 20, true);
        check.end();
    }

    private static void oneRun(Check check, List<Method> methods, int run) throws Exception {
        Random random = new Random(run);
        Vaultgarden garden = new Vaultgarden();
        Model model = new Model();
        int style = run % 4;
        boolean isSly = run >= RUNS;
        StringBuilder trace = new StringBuilder();
        int begun = run % 10 == 7 ? fill(check, garden, model, methods, trace) : 0;
        for (int call = begun; call < CALLS; call++) {
            Object[][] sly = isSly && call > 40 && random.nextInt(40) == 0 ? slySpoiling(model, random) : null;
            if (sly != null && call + 1 < CALLS) {
                oneCall(check, garden, model, named(methods, "write"), sly[0], trace);
                oneCall(check, garden, model, named(methods, "spoil"), sly[1], trace);
                boolean isUnseen = model.status((Integer) sly[1][0]) == 'o' && !model.isSound();
                sameMarks += isUnseen ? 1 : 0;
                call++;
                continue;
            }
            Method method = pick(methods, random, style, call);
            boolean wasSound = !method.getName().equals("leave") || model.isSound();
            oneCall(check, garden, model, method, arguments(method, random, model), trace);
            rewrittenSameMarks += !wasSound && model.isSound() ? 1 : 0;
        }
    }

    /** Nearly as many files and leaves as there can be; answers how many calls this took. */
    private static int fill(Check check, Vaultgarden garden, Model model, List<Method> methods, StringBuilder trace)
            throws Exception {
        List<Object[]> calls = new ArrayList<>();
        for (int user = 0; user < 5; user++) {
            calls.add(new Object[] {"addUser", 2000 * user});
        }
        for (int group = 0; group < 2; group++) {
            calls.add(new Object[] {"addGroup", group, 10 + 30 * group});
        }
        for (int user = 1; user < 4; user++) {
            calls.add(new Object[] {"join", 0, user});
        }
        for (int file = 0; file < 19; file++) {
            calls.add(new Object[] {"addFile", file % 2, file % 2});
        }
        for (int leaf = 3; leaf < 290; leaf++) {
            int file = leaf % 5;
            calls.add(new Object[] {"write", file % 2, file, leaf % 3, leaf});
        }
        for (Object[] call : calls) {
            Object[] arguments = Arrays.copyOfRange(call, 1, call.length);
            oneCall(check, garden, model, named(methods, (String) call[0]), arguments, trace);
        }
        return calls.size();
    }

    private static void oneCall(Check check, Vaultgarden garden, Model model, Method method, Object[] arguments,
            StringBuilder trace) throws Exception {
        Method twin = Model.class.getDeclaredMethod(method.getName(), method.getParameterTypes());
        String got = answer(method, garden, arguments);
        String want = answer(twin, model, arguments);
        String told = method.getName() + Arrays.toString(arguments);
        trace.append(told).append(" -> ").append(want).append('\n');
        outcomes.computeIfAbsent(method.getName(), n -> new int[2])[want.startsWith("throws") ? 1 : 0]++;
        if (want.startsWith("throws")) {
            thrown.merge(method.getName() + " " + want, 1, Integer::sum);
        }
        check.due(told, got, want);
        if (!got.equals(want)) {
            System.out.println(trace);
            check.end();
        }
    }

    /** The arguments of a write and of a spoiling behind it that leaves the file's mark; null if none can be. */
    private static Object[][] slySpoiling(Model model, Random random) {
        if (model.files.isEmpty()) {
            return null;
        }
        int file = random.nextInt(model.files.size());
        int part = random.nextInt(8);
        Model.F it = model.files.get(file);
        Model.G group = model.groups.get(it.group);
        boolean isTurned = it.epochOfVersion.get(it.epochOfVersion.size() - 1) != group.epoch;
        int version = it.epochOfVersion.size() - (isTurned ? 0 : 1);
        int before = Model.mix(6, file);
        for (int other : it.parts.headMap(part).keySet()) {
            before = Model.mix(before, it.parts.get(other).cipher ^ other);
        }
        int[] ciphers = ciphersOfSameMark(before, part);
        int value = Model.unseal(ciphers[0], Model.keyOfPart(file, version, part));
        return new Object[][] {{group.owner, file, part, value}, {file, part, ciphers[0] ^ ciphers[1]}};
    }

    /** Among some hundred thousand ciphers, two come to the same mark. */
    static int[] ciphersOfSameMark(int before, int part) {
        Map<Integer, Integer> cipherOfMark = new HashMap<>();
        for (int cipher = 0;; cipher++) {
            Integer earlier = cipherOfMark.put(Model.mix(before, cipher ^ part), cipher);
            if (earlier != null) {
                return new int[] {earlier, cipher};
            }
        }
    }

    private static Method named(List<Method> methods, String name) {
        for (Method method : methods) {
            if (method.getName().equals(name)) {
                return method;
            }
        }
        throw new IllegalArgumentException(name);
    }

    private static Method pick(List<Method> methods, Random random, int style, int call) {
        String[] builders = {"addUser", "addUser", "addGroup", "join", "addFile", "write"};
        String[] changers = {"write", "join", "leave", "leave", "tell", "ask", "draft", "comeBack", "goAway", "show",
            "meet", "collect", "split"};
        String[] writers = {"write", "join", "leave", "join", "comeBack", "draft", "goAway", "ask", "write"};
        String name = null;
        if (call < 40) {
            name = builders[random.nextInt(builders.length)];
        } else if (style == 1 && random.nextInt(3) > 0) {
            name = changers[random.nextInt(changers.length)];
        } else if (style == 2 && random.nextInt(8) > 0) {
            name = writers[random.nextInt(writers.length)];
        } else if (style == 3 && random.nextInt(4) > 0) {
            name = random.nextBoolean() ? "tell" : changers[random.nextInt(changers.length)];
        }
        Method method = methods.get(random.nextInt(methods.size()));
        // Forgetting, spoiling and throwing away end much; they come seldom, so that much can be ended.
        boolean isSeldom = "forget spoil throwAway purge drop".contains(method.getName());
        if (name == null && isSeldom && random.nextInt(4) > 0) {
            name = "isSound";
        }
        return name == null ? method : named(methods, name);
    }

    private static Object[] arguments(Method method, Random random, Model model) {
        String[] kinds = kinds(method.getName()).split(" ");
        Object[] arguments = new Object[method.getParameterCount()];
        for (int i = 0; i < arguments.length; i++) {
            arguments[i] = random.nextInt(60) == 0 && method.getParameterTypes()[i] == int.class
                    ? Integer.valueOf(wild(random)) : argument(kinds[i], random, model);
        }
        return arguments;
    }

    private static int wild(Random random) {
        int[] wild = {-1, Integer.MIN_VALUE, Integer.MAX_VALUE, 8, 20, 100, 65521, 301};
        return wild[random.nextInt(wild.length)];
    }

    private static Object argument(String kind, Random random, Model model) {
        int leaves = model.leaves();
        switch (kind) {
            case "user":
                return random.nextInt(Math.max(1, model.users.size() + random.nextInt(10) / 9));
            case "group":
                return random.nextInt(Math.max(1, Math.min(model.groups.size(), 1 + random.nextInt(6))
                        + random.nextInt(10) / 9));
            case "file":
                return random.nextInt(Math.max(1, Math.min(model.files.size(), 1 + random.nextInt(24))
                        + random.nextInt(10) / 9));
            case "part":
                return random.nextInt(30) == 0 ? 8 : random.nextInt(1 + random.nextInt(8));
            case "word":
                return random.nextInt(20) == 0 ? 98 + random.nextInt(4) : random.nextInt(1 + random.nextInt(20));
            case "secret":
                return random.nextInt(20) == 0 ? 9998 + random.nextInt(4) : random.nextInt(10000);
            case "quota":
                return random.nextInt(42);
            case "value":
                return random.nextInt();
            case "bits":
                return random.nextBoolean() ? 1 << random.nextInt(3) : random.nextInt(2);
            case "leaves":
                return random.nextInt(3) == 0 ? leaves : random.nextInt(leaves + 2);
            case "most":
                return Math.max(-1, leaves - random.nextInt(12));
            case "place":
                return random.nextInt(10) - (random.nextInt(9) == 0 ? 1 : 0);
            case "many":
                return random.nextInt(10);
            case "share":
                return random.nextInt(20) == 0 ? 65519 + random.nextInt(3) : random.nextInt(65521);
            case "boolean":
                return random.nextBoolean();
            case "letter":
                return "nrfx".charAt(random.nextInt(4));
            default:
                return random.nextInt(4) - (random.nextInt(9) == 0 ? 1 : 0);
        }
    }

    private static String kinds(String method) {
        switch (method) {
            case "addUser":
                return "secret";
            case "addGroup":
                return "user quota";
            case "join": case "isMember": case "known": case "addFile":
                return "group user";
            case "leave":
                return "group user boolean";
            case "write": case "draft":
                return "user file part value";
            case "read": case "canRead": case "canReadByGrants":
                return "user file part";
            case "cipher": case "version": case "writes":
                return "file part";
            case "spoil":
                return "file part bits";
            case "mark": case "status":
                return "file";
            case "throwAway":
                return "user file";
            case "tell":
                return "user file word";
            case "ask":
                return "user group word";
            case "shown":
                return "letter";
            case "epoch": case "parts": case "load": case "loadBits":
                return "group";
            case "leaf": case "root":
                return "leaves";
            case "forget":
                return "most";
            case "proofLength": case "prefixLength":
                return "leaves leaves";
            case "proofAt": case "prefixAt":
                return "leaves leaves place";
            case "show":
                return "user leaves";
            case "meet":
                return "user user";
            case "split":
                return "user many many";
            case "share":
                return "user place";
            case "collect":
                return "place share";
            case "head": case "alarms": case "goAway": case "comeBack":
                return "user";
            default:
                return "index";
        }
    }

    private static String answer(Method method, Object target, Object[] arguments) throws IllegalAccessException {
        try {
            return String.valueOf(method.invoke(target, arguments));
        } catch (InvocationTargetException e) {
            return "throws." + e.getCause().getClass().getSimpleName();
        }
    }
}
