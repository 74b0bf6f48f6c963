import java.lang.reflect.Constructor;
import java.lang.reflect.Field;
import java.lang.reflect.Method;
import java.lang.reflect.Modifier;
import java.util.Arrays;
import java.util.Set;
import java.util.TreeSet;
import java.util.stream.Collectors;

/** The public face: just what the document shows, and no other member that can be seen from outside (rule 1). */
public final class FaceTest {
    private static final String[] METHODS = {
        "int addPendulum(int) IllegalArgumentException IllegalStateException",
        "int push(int, int) IndexOutOfBoundsException IllegalArgumentException IllegalStateException",
        "int catchPendulum(int) IndexOutOfBoundsException IllegalStateException",
        "int setFriction(int) IllegalArgumentException",
        "int pass(int) IllegalArgumentException",
        "int pendulumCount()",
        "int lengthOf(int) IndexOutOfBoundsException",
        "int classOf(int) IndexOutOfBoundsException",
        "int amplitudeOf(int) IndexOutOfBoundsException",
        "int startOf(int) IndexOutOfBoundsException NoSuchElementException",
        "int periodOf(int) IndexOutOfBoundsException",
        "int periodByEstimates(int) IndexOutOfBoundsException",
        "int swingsOf(int) IndexOutOfBoundsException",
        "int clock()",
        "int friction()",
        "int recordOf(int) IllegalArgumentException NoSuchElementException",
        "int holderOf(int) IllegalArgumentException NoSuchElementException",
        "int pendulumAtRank(int) NoSuchElementException",
        "int swingsToRest(int) IndexOutOfBoundsException",
        "int swingsToRestByTable(int) IndexOutOfBoundsException",
        "int restTick(int) IndexOutOfBoundsException NoSuchElementException",
        "int amplitudeAfter(int, int) IndexOutOfBoundsException IllegalArgumentException",
        "int meeting(int, int) IndexOutOfBoundsException IllegalStateException NoSuchElementException",
        "int meetingByDivisors(int, int) IndexOutOfBoundsException IllegalStateException NoSuchElementException",
        "int meetingPairs()",
        "int cycleOf(int, int) IndexOutOfBoundsException",
        "int addLeg(int) IllegalArgumentException IllegalStateException",
        "int removeLeg(int) IndexOutOfBoundsException",
        "int legCount()",
        "int wishOf(int) IndexOutOfBoundsException",
        "int leastRelay() IllegalStateException",
        "int leastRelayByTrying() IllegalStateException",
        "int runnerOf(int) IndexOutOfBoundsException IllegalStateException",
        "int fewestFor(int) IllegalArgumentException NoSuchElementException",
        "int fewestForBySets(int) IllegalArgumentException NoSuchElementException",
        "int exactSets(int) IllegalArgumentException",
        "double meanAmplitude() ArithmeticException",
        "int writeCard(int) IndexOutOfBoundsException",
        "char cardAt(int) IndexOutOfBoundsException",
        "int type(char) IllegalArgumentException IllegalStateException",
        "int execute() IllegalArgumentException IllegalStateException",
        "int errorPosition() NoSuchElementException",
        "int failedCommand() NoSuchElementException",
        "int undo() IllegalStateException",
        "int save()",
        "int restore() IllegalStateException"};

    public static void main(String[] args) throws Exception {
        Class<PendulumGym> face = PendulumGym.class;
        Check.due(0, "the class is public and final", face.getModifiers(), Modifier.PUBLIC | Modifier.FINAL);
        methods(face);
        constants(face);
        Constructor<?>[] constructors = face.getDeclaredConstructors();
        Check.due(1, "the number of constructors", constructors.length, 1);
        Check.due(1, "the constructor's parameters", constructors[0].getParameterCount(), 0);
        Check.due(1, "the constructor is public", constructors[0].getModifiers(), Modifier.PUBLIC);
        insideClasses(face);
        Check.finish("FaceTest");
    }

    private static void methods(Class<?> face) {
        Set<String> got = new TreeSet<>();
        Set<String> publicNames = new TreeSet<>();
        for (Method method : face.getDeclaredMethods()) {
            if (Modifier.isPublic(method.getModifiers())) {
                got.add(signature(method));
                publicNames.add(method.getName());
            }
        }
        Check.due(0, "the public methods", got, new TreeSet<>(Arrays.asList(METHODS)));
        for (Method method : face.getDeclaredMethods()) {
            if (!Modifier.isPublic(method.getModifiers()) && !method.isSynthetic()) {
                Check.due(0, method.getName() + " is private", Modifier.isPrivate(method.getModifiers()), true);
                Check.due(0, method.getName() + " is a name of its own", publicNames.contains(method.getName()), false);
            }
        }
    }

    private static String signature(Method method) {
        String parameters = Arrays.stream(method.getParameterTypes()).map(Class::getName)
            .collect(Collectors.joining(", "));
        String thrown = Arrays.stream(method.getExceptionTypes()).map(type -> " " + type.getSimpleName())
            .collect(Collectors.joining());
        return method.getReturnType() + " " + method.getName() + "(" + parameters + ")" + thrown;
    }

    private static void constants(Class<?> face) throws Exception {
        String[] names = {"SHORT", "MIDDLE", "LONG"};
        for (int value = 0; value < names.length; value++) {
            Field constant = face.getField(names[value]);
            Check.due(9, names[value], constant.getInt(null), value);
            Check.due(9, names[value] + " is a constant", constant.getModifiers(),
                Modifier.PUBLIC | Modifier.STATIC | Modifier.FINAL);
        }
        Check.due(9, "the number of public fields", face.getFields().length, names.length);
        for (Field field : face.getDeclaredFields()) {
            boolean hidden = Modifier.isPrivate(field.getModifiers()) || Modifier.isPublic(field.getModifiers());
            Check.due(0, field.getName() + " is private", hidden, true);
            if (Modifier.isStatic(field.getModifiers())) {
                Check.due(0, field.getName() + " is final", Modifier.isFinal(field.getModifiers()), true);
            }
        }
    }

    private static void insideClasses(Class<?> face) {
        for (Class<?> inside : face.getDeclaredClasses()) {
            Check.due(0, inside.getName() + " is static", Modifier.isStatic(inside.getModifiers()), true);
            Check.due(0, inside.getName() + " is private", Modifier.isPrivate(inside.getModifiers()), true);
        }
    }
}
