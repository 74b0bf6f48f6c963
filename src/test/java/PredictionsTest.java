import java.util.NoSuchElementException;

/** Promises 20 to 27: coming to rest, and meetings. */
public final class PredictionsTest {
    private static final Class<IndexOutOfBoundsException> INDEX = IndexOutOfBoundsException.class;
    private static final Class<IllegalArgumentException> ARGUMENT = IllegalArgumentException.class;
    private static final Class<IllegalStateException> STATE = IllegalStateException.class;
    private static final Class<NoSuchElementException> MISSING = NoSuchElementException.class;

    public static void main(String[] args) {
        swingsToRest();
        allAmplitudesAndFrictions();
        restTick();
        amplitudeAfter();
        meetings();
        allPairsOfPeriods();
        meetingPairs();
        cycleOf();
        wrongPendulums();
        Check.finish("PredictionsTest");
    }

    private static void swingsToRest() {
        PendulumGym gym = Check.gymWith(25);
        Check.due(20, "swingsToRest(0) at rest", gym.swingsToRest(0), 0);
        Check.due(21, "swingsToRestByTable(0) at rest", gym.swingsToRestByTable(0), 0);
        gym.push(0, 40);
        Check.due(20, "swingsToRest(0) from 40", gym.swingsToRest(0), 39);
        Check.due(21, "swingsToRestByTable(0) from 40", gym.swingsToRestByTable(0), 39);
        gym.setFriction(0);
        Check.due(20, "swingsToRest(0) without friction", gym.swingsToRest(0), 40);
        Check.due(21, "swingsToRestByTable(0) without friction", gym.swingsToRestByTable(0), 40);
        gym.setFriction(5);
        Check.due(21, "swingsToRestByTable(0) with friction again", gym.swingsToRestByTable(0), 39);
        Check.due(20, "asking changes nothing", gym.amplitudeOf(0), 40);
    }

    private static void allAmplitudesAndFrictions() {
        for (int friction = 0; friction <= 30; friction++) {
            PendulumGym gym = Check.gymWith(1);
            gym.setFriction(friction);
            for (int degrees = 1; degrees <= 60; degrees++) {
                gym.push(0, 1);
                int swings = 0;
                for (int left = degrees; left > 0; swings++) {
                    left -= Math.max(1, left * friction / 100);
                }
                String what = " from " + degrees + " with friction " + friction;
                Check.due(20, "swingsToRest" + what, gym.swingsToRest(0), swings);
                Check.due(21, "swingsToRestByTable" + what, gym.swingsToRestByTable(0), swings);
                Check.due(22, "restTick" + what, gym.restTick(0), 6 * swings);
            }
        }
    }

    private static void restTick() {
        PendulumGym gym = Check.gymWith(25, 1);
        Check.refused(22, "restTick(0) at rest", MISSING, () -> gym.restTick(0));
        gym.pass(11);
        gym.push(0, 2);
        Check.due(22, "restTick(0)", gym.restTick(0), 71);
        gym.pass(29);
        Check.due(22, "restTick(0) before its swing", gym.restTick(0), 71);
        gym.pass(1);
        Check.due(22, "restTick(0) after its swing", gym.restTick(0), 71);
        gym.push(0, 1);
        Check.due(22, "restTick(0) pushed on", gym.restTick(0), 101);
        gym.pass(59);
        Check.due(22, "it still swings", gym.amplitudeOf(0), 1);
        gym.pass(1);
        Check.due(22, "it rests", gym.amplitudeOf(0), 0);
        Check.refused(22, "restTick(0) at rest again", MISSING, () -> gym.restTick(0));
    }

    private static void amplitudeAfter() {
        PendulumGym gym = Check.gymWith(1, 4);
        gym.pass(3);
        gym.push(0, 60);
        gym.pass(2);
        int[] ticks = {0, 3, 4, 9, 10, 500};
        int[] due = {60, 60, 57, 57, 55, 0};
        for (int index = 0; index < ticks.length; index++) {
            Check.due(23, "amplitudeAfter(0, " + ticks[index] + ")", gym.amplitudeAfter(0, ticks[index]), due[index]);
        }
        Check.due(23, "amplitudeAfter(1, 500) at rest", gym.amplitudeAfter(1, 500), 0);
        Check.due(23, "amplitudeAfter(1, 0) at rest", gym.amplitudeAfter(1, 0), 0);
        for (int wrong : new int[] {-1, 501, Integer.MIN_VALUE, Integer.MAX_VALUE}) {
            Check.refused(23, "amplitudeAfter(0, " + wrong + ")", ARGUMENT, () -> gym.amplitudeAfter(0, wrong));
            Check.refused(23, "amplitudeAfter(2, " + wrong + ")", INDEX, () -> gym.amplitudeAfter(2, wrong));
        }
        Check.due(23, "asking changes nothing", gym.clock(), 5);
        PendulumGym slow = Check.gymWith(99);
        slow.push(0, 60);
        slow.setFriction(0);
        Check.due(23, "amplitudeAfter(0, 500) of the slowest", slow.amplitudeAfter(0, 500), 52);
    }

    private static void meetings() {
        PendulumGym gym = Check.gymWith(4, 4, 9);
        Check.refused(24, "meeting(0, 0) at rest", STATE, () -> gym.meeting(0, 0));
        Check.refused(25, "meetingByDivisors(0, 0) at rest", STATE, () -> gym.meetingByDivisors(0, 0));
        gym.push(0, 1);
        Check.refused(24, "meeting(0, 1), the other at rest", STATE, () -> gym.meeting(0, 1));
        Check.refused(24, "meeting(1, 0), the one at rest", STATE, () -> gym.meeting(1, 0));
        Check.refused(25, "meetingByDivisors(0, 1)", STATE, () -> gym.meetingByDivisors(0, 1));
        Check.refused(25, "meetingByDivisors(1, 0)", STATE, () -> gym.meetingByDivisors(1, 0));
        Check.due(24, "meeting(0, 0)", gym.meeting(0, 0), 12);
        Check.due(25, "meetingByDivisors(0, 0)", gym.meetingByDivisors(0, 0), 12);
        gym.pass(1);
        gym.push(1, 60);
        Check.refused(24, "meeting(0, 1) never", MISSING, () -> gym.meeting(0, 1));
        Check.refused(25, "meetingByDivisors(0, 1) never", MISSING, () -> gym.meetingByDivisors(0, 1));
        gym.pass(5);
        gym.push(2, 60);
        // 12 k and 6 + 18 m meet in 24 although pendulum 0 has come to rest long before.
        Check.due(24, "meeting(0, 2)", gym.meeting(0, 2), 24);
        Check.due(25, "meetingByDivisors(0, 2)", gym.meetingByDivisors(0, 2), 24);
        gym.push(0, 59);
        gym.pass(18);
        Check.due(24, "meeting(0, 2) in a meeting", gym.meeting(0, 2), 60);
        Check.due(25, "meetingByDivisors(0, 2) in a meeting", gym.meetingByDivisors(0, 2), 60);
        gym.pass(35);
        Check.due(24, "meeting(0, 2) in the next tick", gym.meeting(0, 2), 60);
        Check.due(25, "meetingByDivisors(0, 2) in the next tick", gym.meetingByDivisors(0, 2), 60);
        PendulumGym far = Check.gymWith(99, 94);
        far.pass(2);
        far.push(0, 1);
        far.push(1, 1);
        // The periods 59 and 58 have no common divisor: a whole cycle has to pass.
        Check.due(24, "meeting(0, 1) after a cycle", far.meeting(0, 1), 2 + 59 * 58);
        Check.due(25, "meetingByDivisors(0, 1) after a cycle", far.meetingByDivisors(0, 1), 2 + 59 * 58);
    }

    private static void allPairsOfPeriods() {
        for (int one = 1; one <= 99; one += 2) {
            for (int other = 1; other <= 99; other += 3) {
                PendulumGym gym = Check.gymWith(one, other);
                gym.pass(1 + one % 7);
                gym.push(0, 60);
                gym.pass(1 + (one + other) % 5);
                gym.push(1, 60);
                gym.pass(1);
                String want = meetingByTrying(gym);
                String what = "(0, 1) of lengths " + one + " and " + other;
                Check.due(24, "meeting" + what, Check.outcome(() -> gym.meeting(0, 1)), want);
                Check.due(25, "meetingByDivisors" + what, Check.outcome(() -> gym.meetingByDivisors(0, 1)), want);
                Check.due(25, "the other way round", Check.outcome(() -> gym.meetingByDivisors(1, 0)), want);
                Check.due(26, "meetingPairs()", gym.meetingPairs(), want.startsWith("throws") ? 0 : 1);
            }
        }
    }

    private static String meetingByTrying(PendulumGym gym) {
        int clock = gym.clock();
        int[] starts = {gym.startOf(0), gym.startOf(1)};
        int[] periods = {gym.periodOf(0), gym.periodOf(1)};
        for (int tick = clock + 1; tick < 10_000; tick++) {
            if ((tick - starts[0]) % periods[0] == 0 && (tick - starts[1]) % periods[1] == 0) {
                return String.valueOf(tick);
            }
        }
        return "throws NoSuchElementException";
    }

    private static void meetingPairs() {
        PendulumGym gym = Check.gymWith(4, 4, 9, 25);
        Check.due(26, "meetingPairs() at rest", gym.meetingPairs(), 0);
        gym.push(0, 60);
        Check.due(26, "meetingPairs() of one", gym.meetingPairs(), 0);
        gym.push(1, 60);
        Check.due(26, "meetingPairs() of two", gym.meetingPairs(), 1);
        gym.push(2, 60);
        Check.due(26, "meetingPairs() of three", gym.meetingPairs(), 3);
        gym.pass(1);
        gym.push(3, 60);
        // Periods 12, 12, 18 and 30 from tick 1: the last one never meets the others.
        Check.due(26, "meetingPairs() with a loner", gym.meetingPairs(), 3);
        gym.catchPendulum(0);
        Check.due(26, "meetingPairs() after a catch", gym.meetingPairs(), 1);
    }

    private static void cycleOf() {
        PendulumGym gym = Check.gymWith(25, 9, 99);
        Check.due(27, "cycleOf(0, 1) at rest", gym.cycleOf(0, 1), 90);
        Check.due(27, "cycleOf(1, 0)", gym.cycleOf(1, 0), 90);
        Check.due(27, "cycleOf(0, 0)", gym.cycleOf(0, 0), 30);
        Check.due(27, "cycleOf(0, 2)", gym.cycleOf(0, 2), 30 * 59);
        gym.push(0, 5);
        Check.due(27, "cycleOf(0, 1) swinging", gym.cycleOf(0, 1), 90);
    }

    private static void wrongPendulums() {
        PendulumGym gym = Check.gymWith(25, 9);
        for (int wrong : new int[] {2, 8, -1, Integer.MIN_VALUE, Integer.MAX_VALUE}) {
            Check.refused(20, "swingsToRest(" + wrong + ")", INDEX, () -> gym.swingsToRest(wrong));
            Check.refused(21, "swingsToRestByTable(" + wrong + ")", INDEX, () -> gym.swingsToRestByTable(wrong));
            Check.refused(22, "restTick(" + wrong + ")", INDEX, () -> gym.restTick(wrong));
            Check.refused(23, "amplitudeAfter(" + wrong + ", 0)", INDEX, () -> gym.amplitudeAfter(wrong, 0));
            Check.refused(24, "meeting(0, " + wrong + ")", INDEX, () -> gym.meeting(0, wrong));
            Check.refused(24, "meeting(" + wrong + ", 0)", INDEX, () -> gym.meeting(wrong, 0));
            Check.refused(25, "meetingByDivisors(0, " + wrong + ")", INDEX, () -> gym.meetingByDivisors(0, wrong));
            Check.refused(25, "meetingByDivisors(" + wrong + ", 0)", INDEX, () -> gym.meetingByDivisors(wrong, 0));
            Check.refused(27, "cycleOf(0, " + wrong + ")", INDEX, () -> gym.cycleOf(0, wrong));
            Check.refused(27, "cycleOf(" + wrong + ", 0)", INDEX, () -> gym.cycleOf(wrong, 0));
        }
    }
}
