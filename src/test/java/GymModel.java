import java.util.ArrayDeque;
import java.util.ArrayList;
import java.util.Deque;
import java.util.List;
import java.util.NoSuchElementException;
import java.util.regex.Matcher;
import java.util.regex.Pattern;

/** The document told a second time, by trying everything out: ModelTest compares the program with it. */
public final class GymModel {
    private static final String COMMAND = "(?:hang \\d{1,3}|push \\d \\d{1,3}|catch \\d|friction \\d{1,3}"
        + "|leg \\d{1,3}|cut \\d|tick \\d{1,3})";
    private static final Pattern PROGRAM = Pattern.compile(COMMAND + "(?:;" + COMMAND + ")*");

    private static final class Pendulum {
        int length;
        int amplitude;
        int start;
        int swings;

        Pendulum copy() {
            Pendulum copy = new Pendulum();
            copy.length = length;
            copy.amplitude = amplitude;
            copy.start = start;
            copy.swings = swings;
            return copy;
        }

        int period() {
            return (int) Math.floor(6 * Math.sqrt(length) + 1e-9);
        }
    }

    private static final class World {
        List<Pendulum> pendulums = new ArrayList<>();
        List<Integer> legs = new ArrayList<>();
        List<int[]> pushes = new ArrayList<>();
        int clock = 0;
        int friction = 5;

        World copy() {
            World copy = new World();
            for (Pendulum pendulum : pendulums) {
                copy.pendulums.add(pendulum.copy());
            }
            copy.legs.addAll(legs);
            copy.pushes.addAll(pushes);
            copy.clock = clock;
            copy.friction = friction;
            return copy;
        }
    }

    private World world = new World();
    private World saved = null;
    private final Deque<World> undoable = new ArrayDeque<>();
    private String buffer = "";
    private String card = "";
    private Integer errorAt = null;
    private Integer failedAt = null;
    private boolean inProgram = false;

    private static void index(boolean good) {
        if (!good) {
            throw new IndexOutOfBoundsException();
        }
    }

    private static void argument(int value, int least, int most) {
        if (value < least || value > most) {
            throw new IllegalArgumentException();
        }
    }

    private static void state(boolean good) {
        if (!good) {
            throw new IllegalStateException();
        }
    }

    private static void present(boolean good) {
        if (!good) {
            throw new NoSuchElementException();
        }
    }

    private Pendulum pendulum(int number) {
        index(number >= 0 && number < world.pendulums.size());
        return world.pendulums.get(number);
    }

    private void modify() {
        if (!inProgram) {
            remember(world.copy());
        }
    }

    private void remember(World before) {
        undoable.addLast(before);
        if (undoable.size() > 8) {
            undoable.removeFirst();
        }
    }

    public int addPendulum(int length) {
        argument(length, 1, 99);
        state(world.pendulums.size() < 8);
        modify();
        Pendulum added = new Pendulum();
        added.length = length;
        world.pendulums.add(added);
        return world.pendulums.size() - 1;
    }

    public int push(int number, int degrees) {
        pendulum(number);
        argument(degrees, 1, 60);
        state(pendulum(number).amplitude + degrees <= 60);
        modify();
        Pendulum pushed = pendulum(number);
        if (pushed.amplitude == 0) {
            pushed.start = world.clock;
        }
        pushed.amplitude += degrees;
        world.pushes.add(new int[] {number, pushed.amplitude});
        return pushed.amplitude;
    }

    public int catchPendulum(int number) {
        state(pendulum(number).amplitude > 0);
        modify();
        int had = pendulum(number).amplitude;
        pendulum(number).amplitude = 0;
        return had;
    }

    public int setFriction(int friction) {
        argument(friction, 0, 30);
        modify();
        int previous = world.friction;
        world.friction = friction;
        return previous;
    }

    public int pass(int ticks) {
        argument(ticks, 1, 500);
        modify();
        int completed = 0;
        for (int tick = 0; tick < ticks; tick++) {
            completed += tick(world);
        }
        return completed;
    }

    private static int tick(World world) {
        int completed = 0;
        world.clock++;
        for (Pendulum each : world.pendulums) {
            if (each.amplitude > 0 && (world.clock - each.start) % each.period() == 0) {
                int loss = each.amplitude * world.friction / 100;
                each.amplitude -= loss < 1 ? 1 : loss;
                each.swings++;
                completed++;
            }
        }
        return completed;
    }

    public int pendulumCount() {
        return world.pendulums.size();
    }

    public int lengthOf(int number) {
        return pendulum(number).length;
    }

    public int classOf(int number) {
        int length = pendulum(number).length;
        return length < 30 ? 0 : length >= 60 ? 2 : 1;
    }

    public int amplitudeOf(int number) {
        return pendulum(number).amplitude;
    }

    public int startOf(int number) {
        present(pendulum(number).amplitude > 0);
        return pendulum(number).start;
    }

    public int periodOf(int number) {
        return pendulum(number).period();
    }

    public int periodByEstimates(int number) {
        return pendulum(number).period();
    }

    public int swingsOf(int number) {
        return pendulum(number).swings;
    }

    public int clock() {
        return world.clock;
    }

    public int friction() {
        return world.friction;
    }

    /** The first of the highest pushes of the class, or null. */
    private int[] highest(int kind) {
        int[] best = null;
        for (int[] push : world.pushes) {
            if (classOf(push[0]) == kind && (best == null || push[1] > best[1])) {
                best = push;
            }
        }
        return best;
    }

    public int recordOf(int kind) {
        argument(kind, 0, 2);
        present(highest(kind) != null);
        return highest(kind)[1];
    }

    public int holderOf(int kind) {
        argument(kind, 0, 2);
        present(highest(kind) != null);
        return highest(kind)[0];
    }

    public int pendulumAtRank(int rank) {
        List<Integer> order = new ArrayList<>();
        for (int number = 0; number < world.pendulums.size(); number++) {
            order.add(number);
        }
        order.sort((one, other) -> {
            Pendulum a = world.pendulums.get(one);
            Pendulum b = world.pendulums.get(other);
            return a.amplitude != b.amplitude ? b.amplitude - a.amplitude
                : a.swings != b.swings ? b.swings - a.swings : one - other;
        });
        present(rank >= 0 && rank < order.size());
        return order.get(rank);
    }

    public int swingsToRest(int number) {
        pendulum(number);
        World future = world.copy();
        Pendulum asked = future.pendulums.get(number);
        int before = asked.swings;
        while (asked.amplitude > 0) {
            tick(future);
        }
        return asked.swings - before;
    }

    public int swingsToRestByTable(int number) {
        return swingsToRest(number);
    }

    public int restTick(int number) {
        present(pendulum(number).amplitude > 0);
        World future = world.copy();
        while (future.pendulums.get(number).amplitude > 0) {
            tick(future);
        }
        return future.clock;
    }

    public int amplitudeAfter(int number, int ticks) {
        pendulum(number);
        argument(ticks, 0, 500);
        World future = world.copy();
        for (int tick = 0; tick < ticks; tick++) {
            tick(future);
        }
        return future.pendulums.get(number).amplitude;
    }

    private int nextMeeting(Pendulum one, Pendulum other) {
        for (int tick = world.clock + 1; tick <= world.clock + 4000; tick++) {
            if ((tick - one.start) % one.period() == 0 && (tick - other.start) % other.period() == 0) {
                return tick;
            }
        }
        return -1;
    }

    public int meeting(int one, int other) {
        pendulum(one);
        pendulum(other);
        state(pendulum(one).amplitude > 0 && pendulum(other).amplitude > 0);
        int tick = nextMeeting(pendulum(one), pendulum(other));
        present(tick >= 0);
        return tick;
    }

    public int meetingByDivisors(int one, int other) {
        return meeting(one, other);
    }

    public int meetingPairs() {
        int pairs = 0;
        for (Pendulum one : world.pendulums) {
            for (Pendulum other : world.pendulums) {
                if (one != other && one.amplitude > 0 && other.amplitude > 0 && nextMeeting(one, other) >= 0) {
                    pairs++;
                }
            }
        }
        return pairs / 2;
    }

    public int cycleOf(int one, int other) {
        int first = pendulum(one).period();
        int second = pendulum(other).period();
        int ticks = first;
        while (ticks % second != 0) {
            ticks += first;
        }
        return ticks;
    }

    public int addLeg(int period) {
        argument(period, 1, 60);
        state(world.legs.size() < 6);
        modify();
        world.legs.add(period);
        return world.legs.size();
    }

    public int removeLeg(int leg) {
        index(leg >= 0 && leg < world.legs.size());
        modify();
        return world.legs.remove(leg);
    }

    public int legCount() {
        return world.legs.size();
    }

    public int wishOf(int leg) {
        index(leg >= 0 && leg < world.legs.size());
        return world.legs.get(leg);
    }

    /** The first of the cheapest relays: all of them are tried, in the order of their numbers. */
    private int[] bestRelay() {
        state(world.pendulums.size() >= world.legs.size());
        int[] best = new int[world.legs.size() + 1];
        best[world.legs.size()] = Integer.MAX_VALUE;
        tryRelays(new int[world.legs.size() + 1], 0, best);
        return best;
    }

    private void tryRelays(int[] relay, int leg, int[] best) {
        int legs = world.legs.size();
        if (leg == legs) {
            if (relay[legs] < best[legs]) {
                System.arraycopy(relay, 0, best, 0, legs + 1);
            }
            return;
        }
        for (int number = 0; number < world.pendulums.size(); number++) {
            boolean free = true;
            for (int earlier = 0; earlier < leg; earlier++) {
                free &= relay[earlier] != number;
            }
            if (free) {
                int cost = Math.abs(world.pendulums.get(number).period() - world.legs.get(leg));
                relay[leg] = number;
                relay[legs] += cost;
                tryRelays(relay, leg + 1, best);
                relay[legs] -= cost;
            }
        }
    }

    public int leastRelay() {
        return bestRelay()[world.legs.size()];
    }

    public int leastRelayByTrying() {
        return leastRelay();
    }

    public int runnerOf(int leg) {
        index(leg >= 0 && leg < world.legs.size());
        return bestRelay()[leg];
    }

    /** For each number of pendulums and each number of swings, how many sets there are. */
    private int[][] sets() {
        int[][] sets = new int[9][1000];
        sets[0][0] = 1;
        for (Pendulum each : world.pendulums) {
            int more = 168 / each.period();
            for (int number = 8; number > 0; number--) {
                for (int swings = 999; swings >= more; swings--) {
                    sets[number][swings] += sets[number - 1][swings - more];
                }
            }
        }
        return sets;
    }

    public int fewestFor(int swings) {
        argument(swings, 1, 999);
        int[][] sets = sets();
        for (int number = 1; number <= 8; number++) {
            for (int sum = swings; sum <= 999; sum++) {
                if (sets[number][sum] > 0) {
                    return number;
                }
            }
        }
        throw new NoSuchElementException();
    }

    public int fewestForBySets(int swings) {
        return fewestFor(swings);
    }

    public int exactSets(int swings) {
        argument(swings, 0, 999);
        int count = 0;
        for (int[] ofNumber : sets()) {
            count += ofNumber[swings];
        }
        return count;
    }

    public double meanAmplitude() {
        double sum = 0;
        double number = 0;
        for (Pendulum each : world.pendulums) {
            if (each.amplitude > 0) {
                sum += each.amplitude;
                number++;
            }
        }
        if (number == 0) {
            throw new ArithmeticException();
        }
        return sum / number;
    }

    public int writeCard(int number) {
        Pendulum written = pendulum(number);
        int[] best = highest(classOf(number));
        String swinging = written.amplitude == 0 ? "rest" : written.amplitude + "@" + written.start;
        String star = best != null && best[0] == number ? "*" : "";
        card = number + ":" + written.length + "cm " + swinging + star;
        return card.length();
    }

    public char cardAt(int index) {
        index(index >= 0 && index < card.length());
        return card.charAt(index);
    }

    public int type(char character) {
        argument(character, 32, 126);
        state(buffer.length() < 60);
        buffer += character;
        return buffer.length();
    }

    private static boolean canGoOn(String text) {
        Matcher matcher = PROGRAM.matcher(text);
        return matcher.matches() || matcher.hitEnd();
    }

    public int execute() {
        String text = buffer;
        buffer = "";
        if (!PROGRAM.matcher(text).matches()) {
            int good = 0;
            while (good < text.length() && canGoOn(text.substring(0, good + 1))) {
                good++;
            }
            errorAt = good;
            throw new IllegalArgumentException();
        }
        World before = world.copy();
        String[] commands = text.split(";");
        inProgram = true;
        for (int command = 0; command < commands.length; command++) {
            try {
                obey(commands[command].split(" "));
            } catch (RuntimeException refused) {
                inProgram = false;
                world = before;
                failedAt = command;
                throw new IllegalStateException();
            }
        }
        inProgram = false;
        remember(before);
        return commands.length;
    }

    private void obey(String[] words) {
        int number = Integer.parseInt(words[1]);
        switch (words[0]) {
            case "hang" -> addPendulum(number);
            case "push" -> push(number, Integer.parseInt(words[2]));
            case "catch" -> catchPendulum(number);
            case "friction" -> setFriction(number);
            case "leg" -> addLeg(number);
            case "cut" -> removeLeg(number);
            case "tick" -> pass(number);
            default -> throw new AssertionError(words[0]);
        }
    }

    public int errorPosition() {
        present(errorAt != null);
        return errorAt;
    }

    public int failedCommand() {
        present(failedAt != null);
        return failedAt;
    }

    public int undo() {
        state(!undoable.isEmpty());
        world = undoable.removeLast();
        return undoable.size();
    }

    public int save() {
        saved = world.copy();
        return world.clock;
    }

    public int restore() {
        state(saved != null);
        world = saved.copy();
        undoable.clear();
        return world.clock;
    }
}
