import java.util.NoSuchElementException;

/** Promises 1 to 19: the pendulums, their pushes and records, time and ranks. */
public final class PendulumsTest {
    private static final Class<IndexOutOfBoundsException> INDEX = IndexOutOfBoundsException.class;
    private static final Class<IllegalArgumentException> ARGUMENT = IllegalArgumentException.class;
    private static final Class<IllegalStateException> STATE = IllegalStateException.class;
    private static final Class<NoSuchElementException> MISSING = NoSuchElementException.class;

    public static void main(String[] args) {
        newObject();
        addPendulum();
        push();
        catchPendulum();
        setFriction();
        pass();
        plainQuestions();
        startOf();
        periods();
        swingsOf();
        records();
        pendulumAtRank();
        Check.finish("PendulumsTest");
    }

    private static void newObject() {
        PendulumGym gym = new PendulumGym();
        Check.due(1, "pendulumCount()", gym.pendulumCount(), 0);
        Check.due(1, "legCount()", gym.legCount(), 0);
        Check.due(1, "clock()", gym.clock(), 0);
        Check.due(1, "friction()", gym.friction(), 5);
        Check.refused(1, "recordOf(LONG)", MISSING, () -> gym.recordOf(PendulumGym.LONG));
        Check.refused(1, "undo()", STATE, gym::undo);
        Check.refused(1, "restore()", STATE, gym::restore);
        Check.refused(1, "cardAt(0)", INDEX, () -> gym.cardAt(0));
        Check.refused(1, "errorPosition()", MISSING, gym::errorPosition);
        Check.refused(1, "failedCommand()", MISSING, gym::failedCommand);
        Check.due(1, "type('a')", gym.type('a'), 1);
        PendulumGym other = new PendulumGym();
        gym.addPendulum(10);
        Check.due(1, "another object's pendulumCount()", other.pendulumCount(), 0);
    }

    private static void addPendulum() {
        PendulumGym gym = new PendulumGym();
        for (int length : new int[] {0, -1, 100, Integer.MIN_VALUE, Integer.MAX_VALUE}) {
            Check.refused(2, "addPendulum(" + length + ")", ARGUMENT, () -> gym.addPendulum(length));
        }
        Check.due(2, "pendulumCount() after refusals", gym.pendulumCount(), 0);
        int[] lengths = {1, 99, 29, 30, 59, 60, 50, 50};
        for (int number = 0; number < lengths.length; number++) {
            Check.due(2, "addPendulum(" + lengths[number] + ")", gym.addPendulum(lengths[number]), number);
            Check.due(2, "amplitudeOf", gym.amplitudeOf(number), 0);
            Check.due(2, "swingsOf", gym.swingsOf(number), 0);
        }
        Check.refused(2, "a ninth addPendulum(1)", STATE, () -> gym.addPendulum(1));
        Check.refused(2, "a ninth addPendulum(100)", ARGUMENT, () -> gym.addPendulum(100));
        Check.due(2, "pendulumCount() after the ninth", gym.pendulumCount(), 8);
    }

    private static void push() {
        PendulumGym gym = Check.gymWith(1, 50);
        Check.due(3, "push(0, 1)", gym.push(0, 1), 1);
        Check.due(3, "push(0, 58)", gym.push(0, 58), 59);
        Check.refused(3, "push(0, 2) to 61", STATE, () -> gym.push(0, 2));
        Check.due(3, "amplitudeOf(0) after a refusal", gym.amplitudeOf(0), 59);
        Check.due(3, "push(0, 1) to 60", gym.push(0, 1), 60);
        Check.refused(3, "push(0, 60) to 120", STATE, () -> gym.push(0, 60));
        Check.due(3, "push(1, 60)", gym.push(1, 60), 60);
        for (int degrees : new int[] {0, -1, 61, Integer.MIN_VALUE, Integer.MAX_VALUE}) {
            Check.refused(3, "push(0, " + degrees + ")", ARGUMENT, () -> gym.push(0, degrees));
            Check.refused(3, "push(2, " + degrees + ")", INDEX, () -> gym.push(2, degrees));
        }
        for (int pendulum : new int[] {2, -1, 8, Integer.MIN_VALUE, Integer.MAX_VALUE}) {
            Check.refused(3, "push(" + pendulum + ", 5)", INDEX, () -> gym.push(pendulum, 5));
        }
    }

    private static void catchPendulum() {
        PendulumGym gym = Check.gymWith(1, 50);
        Check.refused(4, "catchPendulum(0) at rest", STATE, () -> gym.catchPendulum(0));
        gym.push(0, 17);
        gym.push(1, 3);
        Check.due(4, "catchPendulum(0)", gym.catchPendulum(0), 17);
        Check.due(4, "amplitudeOf(0)", gym.amplitudeOf(0), 0);
        Check.due(4, "amplitudeOf(1)", gym.amplitudeOf(1), 3);
        Check.refused(4, "catchPendulum(0) again", STATE, () -> gym.catchPendulum(0));
        Check.refused(4, "startOf(0)", MISSING, () -> gym.startOf(0));
        Check.due(4, "the record stays", gym.recordOf(PendulumGym.SHORT), 17);
        for (int pendulum : new int[] {2, -1, 8, Integer.MIN_VALUE, Integer.MAX_VALUE}) {
            Check.refused(4, "catchPendulum(" + pendulum + ")", INDEX, () -> gym.catchPendulum(pendulum));
        }
    }

    private static void setFriction() {
        PendulumGym gym = Check.gymWith(1);
        Check.due(5, "setFriction(30)", gym.setFriction(30), 5);
        Check.due(5, "setFriction(0)", gym.setFriction(0), 30);
        Check.due(5, "setFriction(7)", gym.setFriction(7), 0);
        for (int friction : new int[] {-1, 31, Integer.MIN_VALUE, Integer.MAX_VALUE}) {
            Check.refused(5, "setFriction(" + friction + ")", ARGUMENT, () -> gym.setFriction(friction));
        }
        Check.due(5, "friction() after refusals", gym.friction(), 7);
        // 60 * 30 / 100 = 18 and 42 * 30 / 100 = 12, rounded down.
        gym.setFriction(30);
        gym.push(0, 60);
        gym.pass(6);
        Check.due(5, "amplitude with friction 30", gym.amplitudeOf(0), 42);
        gym.pass(6);
        Check.due(5, "amplitude with friction 30, second swing", gym.amplitudeOf(0), 30);
        gym.setFriction(0);
        gym.pass(6);
        Check.due(5, "a swing takes at least 1", gym.amplitudeOf(0), 29);
        gym.setFriction(7);
        gym.pass(6);
        Check.due(5, "29 * 7 / 100 = 2", gym.amplitudeOf(0), 27);
    }

    private static void pass() {
        PendulumGym gym = Check.gymWith(1, 4);
        for (int ticks : new int[] {0, -1, 501, Integer.MIN_VALUE, Integer.MAX_VALUE}) {
            Check.refused(6, "pass(" + ticks + ")", ARGUMENT, () -> gym.pass(ticks));
        }
        Check.due(6, "clock() after refusals", gym.clock(), 0);
        Check.due(6, "pass(1) at rest", gym.pass(1), 0);
        gym.push(0, 3);
        gym.push(1, 1);
        Check.due(6, "pass(5)", gym.pass(5), 0);
        Check.due(6, "pass(1)", gym.pass(1), 1);
        Check.due(6, "amplitudeOf(0)", gym.amplitudeOf(0), 2);
        // The period-6 one has two swings left, the period-12 one a single swing.
        Check.due(6, "pass(500)", gym.pass(500), 3);
        Check.due(6, "clock()", gym.clock(), 507);
        Check.due(6, "amplitudeOf(0) at the end", gym.amplitudeOf(0), 0);
        Check.due(6, "amplitudeOf(1) at the end", gym.amplitudeOf(1), 0);
        PendulumGym full = Check.gymWith(1, 1, 1, 1, 1, 1, 1, 1);
        full.setFriction(0);
        for (int pendulum = 0; pendulum < 8; pendulum++) {
            full.push(pendulum, 60);
        }
        Check.due(6, "pass(360) of eight", full.pass(360), 480);
        Check.due(6, "mean at rest", Check.outcome(full::meanAmplitude), "throws ArithmeticException");
    }

    private static void plainQuestions() {
        PendulumGym gym = new PendulumGym();
        int[] lengths = {1, 29, 30, 59, 60, 99};
        int[] kinds = {0, 0, 1, 1, 2, 2};
        for (int number = 0; number < lengths.length; number++) {
            gym.addPendulum(lengths[number]);
            Check.due(7, "pendulumCount()", gym.pendulumCount(), number + 1);
            Check.due(8, "lengthOf", gym.lengthOf(number), lengths[number]);
            Check.due(9, "classOf length " + lengths[number], gym.classOf(number), kinds[number]);
            Check.due(10, "amplitudeOf at first", gym.amplitudeOf(number), 0);
        }
        Check.due(9, "SHORT", PendulumGym.SHORT, 0);
        Check.due(9, "MIDDLE", PendulumGym.MIDDLE, 1);
        Check.due(9, "LONG", PendulumGym.LONG, 2);
        gym.push(3, 33);
        Check.due(10, "amplitudeOf(3)", gym.amplitudeOf(3), 33);
        Check.due(10, "amplitudeOf(2)", gym.amplitudeOf(2), 0);
        for (int pendulum : new int[] {6, 7, 8, -1, Integer.MIN_VALUE, Integer.MAX_VALUE}) {
            Check.refused(8, "lengthOf(" + pendulum + ")", INDEX, () -> gym.lengthOf(pendulum));
            Check.refused(9, "classOf(" + pendulum + ")", INDEX, () -> gym.classOf(pendulum));
            Check.refused(10, "amplitudeOf(" + pendulum + ")", INDEX, () -> gym.amplitudeOf(pendulum));
            Check.refused(11, "startOf(" + pendulum + ")", INDEX, () -> gym.startOf(pendulum));
            Check.refused(12, "periodOf(" + pendulum + ")", INDEX, () -> gym.periodOf(pendulum));
            Check.refused(13, "periodByEstimates(" + pendulum + ")", INDEX, () -> gym.periodByEstimates(pendulum));
            Check.refused(14, "swingsOf(" + pendulum + ")", INDEX, () -> gym.swingsOf(pendulum));
        }
        Check.due(15, "clock()", gym.clock(), 0);
        gym.pass(7);
        gym.pass(500);
        Check.due(15, "clock() after passes", gym.clock(), 507);
        Check.due(16, "friction() at first", gym.friction(), 5);
        gym.setFriction(12);
        Check.due(16, "friction() after setFriction(12)", gym.friction(), 12);
    }

    private static void startOf() {
        PendulumGym gym = Check.gymWith(1, 4);
        Check.refused(11, "startOf(0) at rest", MISSING, () -> gym.startOf(0));
        gym.pass(4);
        gym.push(0, 2);
        Check.due(11, "startOf(0)", gym.startOf(0), 4);
        gym.pass(3);
        gym.push(0, 2);
        Check.due(11, "startOf(0) after a push in its swing", gym.startOf(0), 4);
        gym.catchPendulum(0);
        gym.push(0, 1);
        Check.due(11, "startOf(0) after a catch", gym.startOf(0), 7);
        gym.pass(5);
        Check.due(11, "it still swings", gym.startOf(0), 7);
        gym.pass(1);
        Check.refused(11, "startOf(0) when it came to rest", MISSING, () -> gym.startOf(0));
        Check.refused(11, "startOf(1)", MISSING, () -> gym.startOf(1));
    }

    private static void periods() {
        for (int length = 1; length <= 99; length++) {
            PendulumGym gym = Check.gymWith(length);
            int period = 0;
            while ((period + 1) * (period + 1) <= 36 * length) {
                period++;
            }
            Check.due(12, "periodOf length " + length, gym.periodOf(0), period);
            Check.due(13, "periodByEstimates length " + length, gym.periodByEstimates(0), period);
        }
    }

    private static void swingsOf() {
        PendulumGym gym = Check.gymWith(1, 4);
        gym.push(0, 2);
        gym.pass(5);
        Check.due(14, "swingsOf(0) before its first", gym.swingsOf(0), 0);
        gym.pass(1);
        Check.due(14, "swingsOf(0)", gym.swingsOf(0), 1);
        gym.pass(100);
        Check.due(14, "swingsOf(0) at rest", gym.swingsOf(0), 2);
        gym.push(0, 60);
        Check.due(14, "swingsOf(0) pushed anew", gym.swingsOf(0), 2);
        gym.pass(12);
        Check.due(14, "swingsOf(0) goes on", gym.swingsOf(0), 4);
        Check.due(14, "swingsOf(1)", gym.swingsOf(1), 0);
    }

    private static void records() {
        PendulumGym gym = Check.gymWith(10, 20, 40, 60);
        for (int kind : new int[] {3, -1, Integer.MIN_VALUE, Integer.MAX_VALUE}) {
            Check.refused(17, "recordOf(" + kind + ")", ARGUMENT, () -> gym.recordOf(kind));
            Check.refused(18, "holderOf(" + kind + ")", ARGUMENT, () -> gym.holderOf(kind));
        }
        for (int kind = 0; kind < 3; kind++) {
            int asked = kind;
            Check.refused(17, "recordOf(" + kind + ")", MISSING, () -> gym.recordOf(asked));
            Check.refused(18, "holderOf(" + kind + ")", MISSING, () -> gym.holderOf(asked));
        }
        gym.push(1, 20);
        Check.due(17, "recordOf(SHORT)", gym.recordOf(PendulumGym.SHORT), 20);
        Check.due(18, "holderOf(SHORT)", gym.holderOf(PendulumGym.SHORT), 1);
        gym.push(0, 20);
        Check.due(18, "holderOf(SHORT) of equals", gym.holderOf(PendulumGym.SHORT), 1);
        gym.push(0, 1);
        Check.due(17, "recordOf(SHORT) pushed on", gym.recordOf(PendulumGym.SHORT), 21);
        Check.due(18, "holderOf(SHORT) taken over", gym.holderOf(PendulumGym.SHORT), 0);
        gym.catchPendulum(0);
        gym.push(1, 1);
        Check.due(18, "holderOf(SHORT) at rest", gym.holderOf(PendulumGym.SHORT), 0);
        gym.push(3, 60);
        Check.due(17, "recordOf(LONG)", gym.recordOf(PendulumGym.LONG), 60);
        Check.due(18, "holderOf(LONG)", gym.holderOf(PendulumGym.LONG), 3);
        Check.refused(17, "recordOf(MIDDLE)", MISSING, () -> gym.recordOf(PendulumGym.MIDDLE));
        gym.push(2, 1);
        Check.due(17, "recordOf(MIDDLE)", gym.recordOf(PendulumGym.MIDDLE), 1);
        Check.due(18, "holderOf(MIDDLE)", gym.holderOf(PendulumGym.MIDDLE), 2);
        gym.pass(500);
        Check.due(17, "recordOf(LONG) when it has lost", gym.recordOf(PendulumGym.LONG), 60);
    }

    private static void pendulumAtRank() {
        PendulumGym gym = Check.gymWith(1, 1, 4, 4);
        for (int rank = 0; rank < 4; rank++) {
            Check.due(19, "pendulumAtRank(" + rank + ") at first", gym.pendulumAtRank(rank), rank);
        }
        gym.push(1, 1);
        gym.pass(6);
        // All are at rest again; pendulum 1 has a swing.
        gym.push(3, 9);
        gym.push(2, 4);
        int[] order = {3, 2, 1, 0};
        for (int rank = 0; rank < 4; rank++) {
            Check.due(19, "pendulumAtRank(" + rank + ")", gym.pendulumAtRank(rank), order[rank]);
        }
        gym.push(2, 5);
        Check.due(19, "pendulumAtRank(0) of equals", gym.pendulumAtRank(0), 2);
        Check.due(19, "pendulumAtRank(1) of equals", gym.pendulumAtRank(1), 3);
        for (int rank : new int[] {4, -1, 8, Integer.MIN_VALUE, Integer.MAX_VALUE}) {
            Check.refused(19, "pendulumAtRank(" + rank + ")", MISSING, () -> gym.pendulumAtRank(rank));
        }
        PendulumGym empty = new PendulumGym();
        Check.refused(19, "pendulumAtRank(0) of none", MISSING, () -> empty.pendulumAtRank(0));
    }
}
