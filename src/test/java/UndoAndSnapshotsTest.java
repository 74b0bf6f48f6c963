import java.util.ArrayList;
import java.util.List;

/** Promises 45 to 47: undo, save and restore. */
public final class UndoAndSnapshotsTest {
    private static final Class<IllegalStateException> STATE = IllegalStateException.class;
    private static final Class<IllegalArgumentException> ARGUMENT = IllegalArgumentException.class;

    public static void main(String[] args) {
        undoEveryModification();
        undoAProgram();
        lastEight();
        undoAndGoOn();
        questionsAreNoModifications();
        refusedCallsAreNoModifications();
        saveAndRestore();
        snapshotsAndUndo();
        Check.finish("UndoAndSnapshotsTest");
    }

    private static void undoEveryModification() {
        PendulumGym gym = Check.gymWith(1, 40);
        Check.withLegs(gym, 5, 6, 7);
        gym.push(0, 20);
        gym.pass(3);
        gym.save();
        gym.restore();
        List<String> before = new ArrayList<>();
        List<Check.Call> calls = List.of(() -> gym.addPendulum(9), () -> gym.push(0, 30), () -> gym.push(1, 5),
            () -> gym.setFriction(17), () -> gym.addLeg(8), () -> gym.removeLeg(1), () -> gym.pass(100),
            () -> gym.catchPendulum(1));
        for (Check.Call call : calls) {
            String state = Check.stateOf(gym);
            Check.due(45, "the modification before modified", before.contains(state), false);
            before.add(state);
            call.answer();
        }
        Check.due(45, "the last modification modified", before.contains(Check.stateOf(gym)), false);
        for (int left = calls.size() - 1; left >= 0; left--) {
            Check.due(45, "undo()", gym.undo(), left);
            Check.due(45, "the state with " + left + " left", Check.stateOf(gym), before.get(left));
        }
        Check.refused(45, "undo() of nothing", STATE, gym::undo);
    }

    private static void undoAProgram() {
        PendulumGym gym = Check.gymWith(1, 40);
        gym.push(0, 20);
        gym.addLeg(7);
        String before = Check.stateOf(gym);
        Check.run(gym, "tick 60;leg 9;cut 0;hang 3;push 2 60");
        Check.due(45, "undo() of a program", gym.undo(), 4);
        Check.due(45, "the state before the program", Check.stateOf(gym), before);
    }

    private static void lastEight() {
        PendulumGym gym = new PendulumGym();
        for (int ticks = 1; ticks <= 11; ticks++) {
            gym.pass(ticks);
        }
        int clock = 66;
        for (int left = 7; left >= 0; left--) {
            Check.due(45, "undo() of eleven", gym.undo(), left);
            clock -= left + 4;
            Check.due(45, "clock()", gym.clock(), clock);
        }
        Check.refused(45, "a ninth undo()", STATE, gym::undo);
        Check.due(45, "clock() at the end", gym.clock(), 6);
        // The same friction again is a modification too.
        gym.setFriction(5);
        Check.due(45, "undo() of the same friction", gym.undo(), 0);
    }

    private static void undoAndGoOn() {
        PendulumGym gym = new PendulumGym();
        for (int round = 0; round < 10; round++) {
            gym.pass(10);
        }
        gym.undo();
        gym.undo();
        gym.undo();
        gym.pass(1);
        Check.due(45, "clock()", gym.clock(), 71);
        Check.due(45, "undo() after going on", gym.undo(), 5);
        Check.due(45, "clock() after undo()", gym.clock(), 70);
        Check.due(45, "undo() further", gym.undo(), 4);
        Check.due(45, "clock() further", gym.clock(), 60);
        for (int left = 3; left >= 0; left--) {
            Check.due(45, "undo()", gym.undo(), left);
        }
        Check.due(45, "clock() at the end", gym.clock(), 20);
        Check.refused(45, "undo() at the end", STATE, gym::undo);
    }

    private static void questionsAreNoModifications() {
        PendulumGym gym = Check.gymWith(1, 4);
        gym.push(0, 5);
        gym.push(1, 5);
        gym.addLeg(5);
        String before = Check.stateOf(gym);
        gym.writeCard(0);
        gym.type('x');
        gym.save();
        gym.pendulumAtRank(0);
        gym.swingsToRestByTable(0);
        gym.restTick(0);
        gym.amplitudeAfter(0, 500);
        gym.meeting(0, 1);
        gym.meetingByDivisors(0, 1);
        gym.leastRelay();
        gym.leastRelayByTrying();
        gym.runnerOf(0);
        gym.fewestFor(1);
        gym.exactSets(1);
        gym.meanAmplitude();
        Check.due(45, "the state after questions", Check.stateOf(gym), before);
        Check.due(45, "undo() behind questions", gym.undo(), 4);
        Check.due(45, "legCount()", gym.legCount(), 0);
    }

    private static void refusedCallsAreNoModifications() {
        PendulumGym gym = Check.gymWith(1);
        gym.push(0, 60);
        String before = Check.stateOf(gym);
        Check.refused(2, "addPendulum(0)", ARGUMENT, () -> gym.addPendulum(0));
        Check.refused(3, "push(0, 1)", STATE, () -> gym.push(0, 1));
        Check.refused(4, "catchPendulum(1)", IndexOutOfBoundsException.class, () -> gym.catchPendulum(1));
        Check.refused(5, "setFriction(31)", ARGUMENT, () -> gym.setFriction(31));
        Check.refused(6, "pass(0)", ARGUMENT, () -> gym.pass(0));
        Check.refused(28, "addLeg(0)", ARGUMENT, () -> gym.addLeg(0));
        Check.refused(29, "removeLeg(0)", IndexOutOfBoundsException.class, () -> gym.removeLeg(0));
        Check.refused(42, "execute() of nothing", ARGUMENT, gym::execute);
        Check.due(42, "a failing program", Check.run(gym, "tick 5;tick 0"), "throws IllegalStateException");
        Check.refused(47, "restore()", STATE, gym::restore);
        Check.due(45, "the state after refusals", Check.stateOf(gym), before);
        Check.due(45, "undo() behind refusals", gym.undo(), 1);
        Check.due(45, "amplitudeOf(0)", gym.amplitudeOf(0), 0);
        Check.refused(45, "the record is undone", java.util.NoSuchElementException.class, () -> gym.recordOf(0));
        // With a full history a refused call must not push the oldest one out either.
        for (int round = 0; round < 9; round++) {
            gym.pass(1);
        }
        Check.refused(6, "pass(501)", ARGUMENT, () -> gym.pass(501));
        Check.due(42, "a failing program again", Check.run(gym, "tick 5;tick 0"), "throws IllegalStateException");
        for (int left = 7; left >= 0; left--) {
            Check.due(45, "undo()", gym.undo(), left);
        }
        Check.due(45, "clock()", gym.clock(), 1);
    }

    private static void saveAndRestore() {
        PendulumGym gym = new PendulumGym();
        Check.refused(47, "restore() without a snapshot", STATE, gym::restore);
        Check.due(46, "save() of a new one", gym.save(), 0);
        gym.addPendulum(50);
        gym.push(0, 44);
        gym.setFriction(9);
        gym.addLeg(33);
        gym.pass(77);
        String later = Check.stateOf(gym);
        Check.due(47, "restore()", gym.restore(), 0);
        Check.due(47, "the state of a new one", Check.stateOf(gym), Check.stateOf(new PendulumGym()));
        Check.refused(45, "undo() after restore()", STATE, gym::undo);
        gym.addPendulum(50);
        gym.push(0, 44);
        gym.setFriction(9);
        gym.addLeg(33);
        gym.pass(77);
        Check.due(47, "the same calls again", Check.stateOf(gym), later);
        Check.due(46, "save() replaces", gym.save(), 77);
        gym.catchPendulum(0);
        gym.removeLeg(0);
        gym.pass(5);
        Check.due(47, "restore() of the second", gym.restore(), 77);
        Check.due(47, "the saved state", Check.stateOf(gym), later);
        gym.pass(500);
        Check.due(47, "restore() once more", gym.restore(), 77);
        Check.due(47, "the snapshot is kept", Check.stateOf(gym), later);
    }

    private static void snapshotsAndUndo() {
        PendulumGym gym = new PendulumGym();
        gym.pass(4);
        gym.pass(5);
        Check.due(46, "save()", gym.save(), 9);
        Check.due(46, "save() leaves what can be undone", gym.undo(), 1);
        Check.due(46, "clock()", gym.clock(), 4);
        Check.due(47, "undo() leaves the snapshot", gym.restore(), 9);
        Check.due(47, "clock()", gym.clock(), 9);
        Check.refused(47, "undo() after restore()", STATE, gym::undo);
        gym.pass(1);
        Check.due(47, "undo() goes back to the snapshot only", gym.undo(), 0);
        Check.due(47, "clock() again", gym.clock(), 9);
        Check.refused(47, "undo() beyond", STATE, gym::undo);
    }
}
