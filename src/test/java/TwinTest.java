import java.lang.reflect.InvocationTargetException;
import java.lang.reflect.Method;
import java.lang.reflect.Modifier;
import java.util.Arrays;
import java.util.Comparator;
import java.util.Random;

/** Plays random games on Rollbacker and on Twin; each call must answer or throw the same. */
public final class TwinTest {
    private static final int CALLS = 512;
    private static final int[] WILD = {Integer.MIN_VALUE, -1, 16, 150, Integer.MAX_VALUE};

    private final Random random;
    private final Rollbacker real = new Rollbacker();
    private final Twin twin = new Twin();
    private final StringBuilder told = new StringBuilder();
    private int scripts;
    private int boxes;
    private int players;

    private TwinTest(long seed) {
        random = new Random(seed);
    }

    public static void main(String[] args) throws ReflectiveOperationException {
        int games = args.length > 0 ? Integer.parseInt(args[0]) : 120;
        int from = args.length > 1 ? Integer.parseInt(args[1]) : 0;
        for (int seed = from; seed < from + games; seed++) {
            TwinTest test = new TwinTest(seed);
            String wrong = test.play();
            Check.gives("game " + seed, () -> wrong, "as due");
        }
        Check.end("TwinTest");
    }

    private String play() throws ReflectiveOperationException {
        int calls = 0;
        for (String name : plan()) {
            Object[] arguments = arguments(name);
            String wrong = compare(name, arguments);
            if (wrong != null) {
                return "call " + calls + ": " + wrong + told;
            }
            calls++;
        }
        Method[] methods = Twin.class.getDeclaredMethods();
        Arrays.sort(methods, Comparator.comparing(Method::getName));
        int least = 0;
        while (calls < CALLS) {
            // Ticks pass often at first, so that much is asked of a game that has gone far.
            boolean passes = random.nextInt(4) == 0;
            Method method = methods[random.nextInt(methods.length)];
            String name = passes ? "tick" : method.getName();
            boolean isFace = Modifier.isPublic(method.getModifiers());
            if (!passes && (!isFace || isBuilding(name) && random.nextInt(10) > 0)) {
                least++;
                if (least > 100000) {
                    return "no end";
                }
                continue;
            }
            String wrong = compare(name, arguments(name));
            if (wrong != null) {
                return "call " + calls + ": " + wrong + told;
            }
            calls++;
        }
        return "as due";
    }

    private static boolean isBuilding(String name) {
        return name.startsWith("add") || name.equals("push") || name.equals("start");
    }

    private String[] plan() {
        StringBuilder plan = new StringBuilder();
        int scriptCount = random.nextInt(5);
        plan.append("addScript ".repeat(scriptCount));
        plan.append("addOperation ".repeat(random.nextInt(12 * scriptCount + 1)));
        for (int i = random.nextInt(12) + 2; i > 0; i--) {
            plan.append("addBox push ");
        }
        return plan.append("start setDelay setDelay").toString().split(" ");
    }

    private Object[] arguments(String name) {
        Method method = methodOf(Twin.class, name);
        Class<?>[] types = method.getParameterTypes();
        Object[] arguments = new Object[types.length];
        for (int i = 0; i < types.length; i++) {
            arguments[i] = types[i] == char.class ? (Object) kind() : (Object) number(name, i);
        }
        if (name.equals("addOperation") && random.nextInt(10) > 0) {
            fitOperation(arguments);
        }
        if (name.equals("addBox") && random.nextInt(10) > 0) {
            fitBox(arguments);
        }
        if (name.equals("hashWith") && random.nextInt(5) > 0) {
            int until = (Integer) arguments[3];
            arguments[0] = Math.max(0, until - random.nextInt(20));
        }
        return arguments;
    }

    private char kind() {
        String kinds = "wwtvagfre";
        return random.nextInt(40) == 0 ? (char) random.nextInt(200) : kinds.charAt(random.nextInt(kinds.length()));
    }

    private void fitOperation(Object[] arguments) {
        char kind = (Character) arguments[1];
        if (kind == 'w') {
            arguments[2] = 1 + random.nextInt(random.nextBoolean() ? 3 : 30);
        } else if (kind == 'g') {
            arguments[2] = random.nextInt(random.nextBoolean() ? 4 : 12);
        } else if (kind == 'r') {
            arguments[2] = 1 + random.nextInt(20);
        }
    }

    /** Boxes that lie near one another, so that they meet. */
    private void fitBox(Object[] arguments) {
        int kind = new int[] {0, 0, 0, 1, 1, 3}[random.nextInt(6)];
        int half = 2 + random.nextInt(random.nextInt(8) == 0 ? 254 : 40);
        int wide = random.nextInt(3) == 0 ? 4095 - 2 * half : 500;
        arguments[0] = kind;
        arguments[1] = half + random.nextInt(wide + 1);
        arguments[2] = half + random.nextInt(Math.min(wide, 300) + 1);
        arguments[3] = half;
        arguments[4] = 1 + random.nextInt(9);
        arguments[5] = random.nextInt(3);
        arguments[6] = random.nextInt(scripts + 1) - 1;
    }

    private int number(String name, int index) {
        if (random.nextInt(60) == 0) {
            return WILD[random.nextInt(WILD.length)];
        }
        if (random.nextInt(60) == 0) {
            return random.nextInt(120) - 60;
        }
        boolean isPeer = index == 0 && !name.equals("addOperation") && !name.equals("hashWith")
                || index == 1 && (name.equals("setDelay") || name.equals("lose") || name.equals("known")
                || name.startsWith("differe") || name.equals("hashWith"));
        switch (name) {
            case "addOperation":
                return index == 0 ? random.nextInt(Math.max(1, scripts)) : random.nextInt(99) - 49;
            case "push":
                return index == 0 ? Math.max(0, boxes - 1) : random.nextInt(99) - 49;
            case "start":
                return random.nextInt(8) == 0 ? 1 : 2 + random.nextInt(2);
            case "tick":
                return random.nextInt(30) == 0 ? random.nextInt(23) : 1 + random.nextInt(4);
            case "loneHash":
                return random.nextInt(160);
            default:
                break;
        }
        if (isPeer) {
            return random.nextInt(30) == 0 ? players : random.nextInt(Math.max(1, players));
        }
        return other(name, index);
    }

    private int other(String name, int index) {
        switch (name) {
            case "press":
                return random.nextInt(32);
            case "setDelay":
                return 1 + random.nextInt(random.nextInt(3) == 0 ? 9 : 3);
            case "lose":
                return random.nextInt(random.nextInt(4) == 0 ? 51 : 12);
            case "field":
                return index == 1 ? random.nextInt(16) : random.nextInt(15);
            case "cheat":
                // Seldom, as it makes the peers differ for good.
                return index == 1 ? random.nextInt(16) : index == 2 ? random.nextInt(80) : random.nextInt(49);
            case "effectAt":
                return index == 1 ? near() : random.nextInt(3);
            case "effects":
            case "hash":
                return near();
            case "hashWith":
                return index == 2 ? random.nextInt(32) : near();
            default:
                return random.nextInt(20);
        }
    }

    /** A step that has been done not long ago, or some other one. */
    private int near() {
        int now = players > 0 ? twin.done(0) : 0;
        return random.nextInt(4) == 0 ? random.nextInt(151) : Math.max(0, now + 2 - random.nextInt(14));
    }

    private static Method methodOf(Class<?> type, String name) {
        for (Method method : type.getDeclaredMethods()) {
            if (method.getName().equals(name) && Modifier.isPublic(method.getModifiers())) {
                return method;
            }
        }
        throw new AssertionError(name);
    }

    private String compare(String name, Object[] arguments) throws ReflectiveOperationException {
        Object due = answer(twin, name, arguments);
        Object got = answer(real, name, arguments);
        told.append('\n').append(name).append(Arrays.toString(arguments)).append(" -> ").append(due);
        if (!due.toString().startsWith("throws.")) {
            scripts += name.equals("addScript") ? 1 : 0;
            boxes += name.equals("addBox") ? 1 : 0;
            players = name.equals("start") ? (Integer) arguments[0] : players;
        }
        return due.equals(got) ? null : name + Arrays.toString(arguments) + " answered " + got + ", due is " + due;
    }

    private static Object answer(Object engine, String name, Object[] arguments) throws ReflectiveOperationException {
        try {
            return methodOf(engine.getClass(), name).invoke(engine, arguments);
        } catch (InvocationTargetException e) {
            if (e.getCause() instanceof Error error) {
                throw error;
            }
            return "throws." + e.getCause().getClass().getName();
        }
    }
}
