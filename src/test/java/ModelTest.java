import java.lang.reflect.InvocationTargetException;
import java.lang.reflect.Method;
import java.util.ArrayList;
import java.util.Comparator;
import java.util.List;
import java.util.Random;

/** All promises at once: long runs of calls, the same for each start, answered by the program and by GymModel alike. */
public final class ModelTest {
    private static final int RUNS = 400;
    private static final int CALLS = 512;
    private static final int[] EDGES = {-1, 0, 1, 2, 3, 7, 8, 9, 28, 30, 31, 59, 60, 61, 99, 100, 500, 501, 999, 1000,
        Integer.MIN_VALUE, Integer.MAX_VALUE};
    private static final String[] CHANGES = {"addPendulum", "push", "push", "push", "catchPendulum", "setFriction",
        "pass", "pass", "addLeg", "addLeg", "removeLeg", "undo", "save", "restore"};
    private static final String[] COMMANDS = {"hang #", "push # #", "push # #", "catch #", "friction #", "leg #",
        "cut #", "tick #"};

    private final Random random;
    private final PendulumGym gym = new PendulumGym();
    private final GymModel model = new GymModel();
    private final List<Method> methods = new ArrayList<>();
    private final int run;
    private int calls = 0;
    private boolean agrees = true;

    private ModelTest(int run) {
        this.run = run;
        random = new Random(run);
        for (Method method : PendulumGym.class.getDeclaredMethods()) {
            if (java.lang.reflect.Modifier.isPublic(method.getModifiers())) {
                methods.add(method);
            }
        }
        methods.sort(Comparator.comparing(Method::getName));
    }

    public static void main(String[] args) throws Exception {
        for (int run = 0; run < RUNS; run++) {
            new ModelTest(run).go();
        }
        Check.finish("ModelTest");
    }

    private void go() throws Exception {
        int first = random.nextInt(9);
        for (int pendulum = 0; pendulum < first; pendulum++) {
            call("addPendulum", 1 + random.nextInt(99));
        }
        while (calls < CALLS && agrees) {
            int dice = random.nextInt(20);
            if (dice < 8) {
                callAny(method(CHANGES[random.nextInt(CHANGES.length)]));
            } else if (dice == 8) {
                typeAndExecute();
            } else {
                callAny(methods.get(random.nextInt(methods.size())));
            }
        }
        Check.due(0, "agreement of run " + run, agrees, true);
    }

    private void typeAndExecute() throws Exception {
        StringBuilder text = new StringBuilder();
        int commands = 1 + random.nextInt(6);
        for (int command = 0; command < commands; command++) {
            text.append(command == 0 ? "" : ";").append(command());
        }
        if (random.nextInt(3) == 0) {
            spoil(text);
        }
        for (int index = 0; index < text.length() && calls < CALLS - 1; index++) {
            call("type", text.charAt(index));
        }
        call("execute");
        if (calls < CALLS) {
            call(random.nextBoolean() ? "errorPosition" : "failedCommand");
        }
    }

    private String command() {
        String text = COMMANDS[random.nextInt(COMMANDS.length)];
        while (text.indexOf('#') >= 0) {
            boolean digit = text.startsWith("push # ") || text.startsWith("c");
            int number = digit ? random.nextInt(random.nextInt(5) == 0 ? 10 : 4) : random.nextInt(62);
            String written = !digit && random.nextInt(6) == 0 ? String.format("%03d", number) : String.valueOf(number);
            text = text.replaceFirst("#", written);
        }
        return text;
    }

    private void spoil(StringBuilder text) {
        int place = random.nextInt(text.length());
        String signs = "; 0123456789acghiklnprstux~A";
        char sign = signs.charAt(random.nextInt(signs.length()));
        switch (random.nextInt(4)) {
            case 0 -> text.setLength(place);
            case 1 -> text.setCharAt(place, sign);
            case 2 -> text.insert(place, sign);
            default -> text.deleteCharAt(place);
        }
    }

    private Method method(String name) {
        for (Method method : methods) {
            if (method.getName().equals(name)) {
                return method;
            }
        }
        throw new AssertionError(name);
    }

    private void callAny(Method method) throws Exception {
        Object[] arguments = new Object[method.getParameterCount()];
        for (int index = 0; index < arguments.length; index++) {
            if (method.getParameterTypes()[index] == char.class) {
                arguments[index] = (char) (random.nextInt(8) == 0 ? random.nextInt(65536) : 32 + random.nextInt(95));
            } else {
                arguments[index] = number(method.getName(), index);
            }
        }
        call(method.getName(), arguments);
    }

    private int number(String name, int index) {
        if (random.nextInt(12) == 0) {
            return EDGES[random.nextInt(EDGES.length)];
        }
        switch (name) {
            case "addPendulum":
                return 1 + random.nextInt(99);
            case "addLeg":
                return 1 + random.nextInt(60);
            case "pass":
                return 1 + random.nextInt(random.nextInt(6) == 0 ? 500 : 70);
            case "setFriction":
                return random.nextInt(31);
            case "fewestFor", "fewestForBySets", "exactSets":
                return random.nextInt(130);
            case "cardAt":
                return random.nextInt(18);
            case "recordOf", "holderOf":
                return random.nextInt(3);
            case "push":
                return index == 0 ? random.nextInt(8) : 1 + random.nextInt(40);
            case "amplitudeAfter":
                return index == 0 ? random.nextInt(8) : random.nextInt(501);
            case "removeLeg", "wishOf", "runnerOf":
                return random.nextInt(6);
            default:
                return random.nextInt(8);
        }
    }

    private void call(String name, Object... arguments) throws Exception {
        calls++;
        Method method = method(name);
        String got = outcome(method, gym, arguments);
        String want = outcome(GymModel.class.getMethod(name, method.getParameterTypes()), model, arguments);
        if (!got.equals(want)) {
            agrees = false;
        }
        Check.due(0, "run " + run + ", call " + calls + ": " + name + List.of(arguments), got, want);
    }

    private static String outcome(Method method, Object object, Object[] arguments) throws Exception {
        try {
            return String.valueOf(method.invoke(object, arguments));
        } catch (InvocationTargetException thrown) {
            return "throws " + thrown.getCause().getClass().getName();
        }
    }
}
