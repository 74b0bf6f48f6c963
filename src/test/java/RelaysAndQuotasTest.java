import java.util.NoSuchElementException;

/** Promises 28 to 38: legs, relays, quotas and the mean. */
public final class RelaysAndQuotasTest {
    private static final Class<IndexOutOfBoundsException> INDEX = IndexOutOfBoundsException.class;
    private static final Class<IllegalArgumentException> ARGUMENT = IllegalArgumentException.class;
    private static final Class<IllegalStateException> STATE = IllegalStateException.class;
    private static final Class<NoSuchElementException> MISSING = NoSuchElementException.class;

    public static void main(String[] args) {
        legs();
        removeLeg();
        relays();
        relaysThatGreedLoses();
        runnersOfEquals();
        biggestRelay();
        fewest();
        swingsInAWeek();
        exactSets();
        meanAmplitude();
        Check.finish("RelaysAndQuotasTest");
    }

    private static void legs() {
        PendulumGym gym = new PendulumGym();
        for (int period : new int[] {0, -1, 61, Integer.MIN_VALUE, Integer.MAX_VALUE}) {
            Check.refused(28, "addLeg(" + period + ")", ARGUMENT, () -> gym.addLeg(period));
        }
        Check.due(30, "legCount() at first", gym.legCount(), 0);
        int[] periods = {1, 60, 30, 30, 2, 59};
        for (int leg = 0; leg < periods.length; leg++) {
            Check.due(28, "addLeg(" + periods[leg] + ")", gym.addLeg(periods[leg]), leg + 1);
            Check.due(30, "legCount()", gym.legCount(), leg + 1);
        }
        Check.refused(28, "a seventh addLeg(1)", STATE, () -> gym.addLeg(1));
        Check.refused(28, "a seventh addLeg(61)", ARGUMENT, () -> gym.addLeg(61));
        Check.due(30, "legCount() after refusals", gym.legCount(), 6);
        for (int leg = 0; leg < periods.length; leg++) {
            Check.due(31, "wishOf(" + leg + ")", gym.wishOf(leg), periods[leg]);
        }
        for (int leg : new int[] {6, -1, Integer.MIN_VALUE, Integer.MAX_VALUE}) {
            Check.refused(31, "wishOf(" + leg + ")", INDEX, () -> gym.wishOf(leg));
        }
    }

    private static void removeLeg() {
        PendulumGym gym = Check.withLegs(new PendulumGym(), 1, 2, 3, 4, 5, 6);
        for (int leg : new int[] {6, -1, Integer.MIN_VALUE, Integer.MAX_VALUE}) {
            Check.refused(29, "removeLeg(" + leg + ")", INDEX, () -> gym.removeLeg(leg));
        }
        Check.due(29, "removeLeg(5)", gym.removeLeg(5), 6);
        Check.due(29, "removeLeg(0)", gym.removeLeg(0), 1);
        Check.due(29, "removeLeg(1)", gym.removeLeg(1), 3);
        int[] left = {2, 4, 5};
        Check.due(30, "legCount()", gym.legCount(), left.length);
        for (int leg = 0; leg < left.length; leg++) {
            Check.due(31, "wishOf(" + leg + ")", gym.wishOf(leg), left[leg]);
        }
        Check.refused(31, "wishOf(3)", INDEX, () -> gym.wishOf(3));
        Check.refused(29, "removeLeg(3)", INDEX, () -> gym.removeLeg(3));
        Check.due(28, "addLeg(60) behind", gym.addLeg(60), 4);
        Check.due(31, "wishOf(3)", gym.wishOf(3), 60);
    }

    private static void relays() {
        PendulumGym gym = new PendulumGym();
        Check.due(32, "leastRelay() of nothing", gym.leastRelay(), 0);
        Check.due(33, "leastRelayByTrying() of nothing", gym.leastRelayByTrying(), 0);
        Check.refused(34, "runnerOf(0) of nothing", INDEX, () -> gym.runnerOf(0));
        gym.addLeg(60);
        Check.refused(32, "leastRelay() without pendulums", STATE, gym::leastRelay);
        Check.refused(33, "leastRelayByTrying() without pendulums", STATE, gym::leastRelayByTrying);
        Check.refused(34, "runnerOf(0) without pendulums", STATE, () -> gym.runnerOf(0));
        Check.refused(34, "runnerOf(1) without pendulums", INDEX, () -> gym.runnerOf(1));
        gym.addPendulum(1);
        Check.due(32, "leastRelay()", gym.leastRelay(), 54);
        Check.due(33, "leastRelayByTrying()", gym.leastRelayByTrying(), 54);
        Check.due(34, "runnerOf(0)", gym.runnerOf(0), 0);
        gym.addPendulum(99);
        Check.due(32, "leastRelay() of two", gym.leastRelay(), 1);
        Check.due(33, "leastRelayByTrying() of two", gym.leastRelayByTrying(), 1);
        Check.due(34, "runnerOf(0) of two", gym.runnerOf(0), 1);
        gym.push(1, 30);
        Check.due(32, "leastRelay() of swinging ones", gym.leastRelay(), 1);
        for (int leg : new int[] {1, 6, -1, Integer.MIN_VALUE, Integer.MAX_VALUE}) {
            Check.refused(34, "runnerOf(" + leg + ")", INDEX, () -> gym.runnerOf(leg));
        }
    }

    private static void relaysThatGreedLoses() {
        // Periods 30 and 36; leg 0 likes both, but leg 1 needs the one that leg 0 likes better.
        PendulumGym gym = Check.withLegs(Check.gymWith(25, 36), 31, 10);
        Check.due(32, "leastRelay()", gym.leastRelay(), 25);
        Check.due(33, "leastRelayByTrying()", gym.leastRelayByTrying(), 25);
        Check.due(34, "runnerOf(0)", gym.runnerOf(0), 1);
        Check.due(34, "runnerOf(1)", gym.runnerOf(1), 0);
    }

    private static void runnersOfEquals() {
        PendulumGym gym = Check.withLegs(Check.gymWith(49, 25, 25, 25), 30, 30, 42);
        int[] runners = {1, 2, 0};
        for (int leg = 0; leg < runners.length; leg++) {
            Check.due(34, "runnerOf(" + leg + ")", gym.runnerOf(leg), runners[leg]);
        }
        Check.due(32, "leastRelay()", gym.leastRelay(), 0);
        // Both relays of the periods 30 and 36 cost 6: the first leg takes the lower number.
        PendulumGym equal = Check.withLegs(Check.gymWith(36, 25), 30, 30);
        Check.due(34, "runnerOf(0) of equals", equal.runnerOf(0), 0);
        Check.due(34, "runnerOf(1) of equals", equal.runnerOf(1), 1);
        Check.due(33, "leastRelayByTrying() of equals", equal.leastRelayByTrying(), 6);
    }

    private static void biggestRelay() {
        PendulumGym gym = Check.withLegs(Check.gymWith(99, 64, 49, 36, 25, 16, 9, 4), 12, 18, 24, 30, 36, 42);
        Check.due(32, "leastRelay() of six", gym.leastRelay(), 0);
        Check.due(33, "leastRelayByTrying() of six", gym.leastRelayByTrying(), 0);
        for (int leg = 0; leg < 6; leg++) {
            Check.due(34, "runnerOf(" + leg + ") of six", gym.runnerOf(leg), 7 - leg);
        }
        PendulumGym dear = Check.withLegs(Check.gymWith(1, 1, 1, 1, 1, 1), 60, 60, 60, 60, 60, 60);
        Check.due(32, "the dearest leastRelay()", dear.leastRelay(), 324);
        Check.due(33, "the dearest leastRelayByTrying()", dear.leastRelayByTrying(), 324);
        dear.removeLeg(0);
        Check.due(32, "leastRelay() of five", dear.leastRelay(), 270);
        Check.due(33, "leastRelayByTrying() of five", dear.leastRelayByTrying(), 270);
    }

    private static void fewest() {
        // Swings in a week: 168 / 6 = 28, 168 / 24 = 7, 168 / 36 = 4, 168 / 48 = 3, rounded down.
        PendulumGym gym = Check.gymWith(64, 36, 1, 16);
        int[] swings = {1, 28, 29, 35, 36, 39, 40, 42};
        int[] due = {1, 1, 2, 2, 3, 3, 4, 4};
        for (int index = 0; index < swings.length; index++) {
            Check.due(35, "fewestFor(" + swings[index] + ")", gym.fewestFor(swings[index]), due[index]);
            Check.due(36, "fewestForBySets(" + swings[index] + ")", gym.fewestForBySets(swings[index]), due[index]);
        }
        for (int tooMany : new int[] {43, 999}) {
            Check.refused(35, "fewestFor(" + tooMany + ")", MISSING, () -> gym.fewestFor(tooMany));
            Check.refused(36, "fewestForBySets(" + tooMany + ")", MISSING, () -> gym.fewestForBySets(tooMany));
        }
        for (int wrong : new int[] {0, -1, 1000, Integer.MIN_VALUE, Integer.MAX_VALUE}) {
            Check.refused(35, "fewestFor(" + wrong + ")", ARGUMENT, () -> gym.fewestFor(wrong));
            Check.refused(36, "fewestForBySets(" + wrong + ")", ARGUMENT, () -> gym.fewestForBySets(wrong));
        }
        PendulumGym empty = new PendulumGym();
        Check.refused(35, "fewestFor(1) of none", MISSING, () -> empty.fewestFor(1));
        Check.refused(36, "fewestForBySets(1) of none", MISSING, () -> empty.fewestForBySets(1));
        PendulumGym falling = Check.gymWith(1, 36, 16, 64);
        for (int index = 0; index < swings.length; index++) {
            int want = due[index];
            Check.due(35, "fewestFor(" + swings[index] + "), the first the fastest", falling.fewestFor(swings[index]), want);
            Check.due(36, "fewestForBySets, the first the fastest", falling.fewestForBySets(swings[index]), want);
        }
        PendulumGym full = Check.gymWith(1, 1, 1, 1, 1, 1, 1, 1);
        Check.due(35, "fewestFor(224)", full.fewestFor(224), 8);
        Check.due(36, "fewestForBySets(224)", full.fewestForBySets(224), 8);
        full.push(0, 60);
        Check.due(35, "fewestFor(197) with a swinging one", full.fewestFor(197), 8);
    }

    private static void swingsInAWeek() {
        for (int length = 1; length <= 99; length++) {
            PendulumGym gym = Check.gymWith(length);
            int swings = 168 / gym.periodOf(0);
            Check.due(35, "fewestFor of length " + length, gym.fewestFor(swings), 1);
            Check.refused(35, "fewestFor of length " + length, MISSING, () -> gym.fewestFor(swings + 1));
            Check.due(36, "fewestForBySets of length " + length, gym.fewestForBySets(swings), 1);
            Check.refused(36, "fewestForBySets of length " + length, MISSING, () -> gym.fewestForBySets(swings + 1));
            Check.due(37, "exactSets of length " + length, gym.exactSets(swings), 1);
        }
    }

    private static void exactSets() {
        PendulumGym gym = new PendulumGym();
        Check.due(37, "exactSets(0) of none", gym.exactSets(0), 1);
        Check.due(37, "exactSets(1) of none", gym.exactSets(1), 0);
        for (int length : new int[] {64, 36, 1, 16, 16}) {
            gym.addPendulum(length);
        }
        // Swings in a week: 3, 4, 28, 7 and 7.
        int[] swings = {0, 3, 5, 7, 14, 11, 49, 50, 999};
        int[] due = {1, 1, 0, 3, 3, 2, 1, 0, 0};
        for (int index = 0; index < swings.length; index++) {
            Check.due(37, "exactSets(" + swings[index] + ")", gym.exactSets(swings[index]), due[index]);
        }
        for (int wrong : new int[] {-1, 1000, Integer.MIN_VALUE, Integer.MAX_VALUE}) {
            Check.refused(37, "exactSets(" + wrong + ")", ARGUMENT, () -> gym.exactSets(wrong));
        }
        PendulumGym full = Check.gymWith(1, 1, 1, 1, 1, 1, 1, 1);
        Check.due(37, "exactSets(112) of eight", full.exactSets(112), 70);
    }

    private static void meanAmplitude() {
        PendulumGym gym = new PendulumGym();
        Check.refused(38, "meanAmplitude() of none", ArithmeticException.class, gym::meanAmplitude);
        for (int length = 1; length <= 4; length++) {
            gym.addPendulum(length);
        }
        Check.refused(38, "meanAmplitude() at rest", ArithmeticException.class, gym::meanAmplitude);
        gym.push(1, 10);
        Check.due(38, "meanAmplitude() of one", gym.meanAmplitude(), 10.0);
        gym.push(2, 11);
        Check.due(38, "meanAmplitude() of two", gym.meanAmplitude(), 10.5);
        gym.push(3, 1);
        Check.due(38, "meanAmplitude() of three", gym.meanAmplitude(), 22.0 / 3.0);
        gym.catchPendulum(1);
        Check.due(38, "meanAmplitude() after a catch", gym.meanAmplitude(), 6.0);
        gym.push(0, 60);
        Check.due(38, "meanAmplitude() with the first", gym.meanAmplitude(), 24.0);
    }
}
