import java.util.ArrayList;
import java.util.List;
import java.util.function.Function;
import java.util.function.Supplier;

/** The boundaries of promises 45 to 47, of the terms about undo, and of those about exceptions. */
final class UndoBoundaries {
    private UndoBoundaries() {
    }

    static void all() {
        terms();
        undo();
        snapshots();
        exceptions();
    }

    private static void terms() {
        Sentence.holds(Sentence.TERMS, "The successful calls of addPendulum, push, catchPendulum, setFriction, addLeg, "
            + "removeLeg, pass and execute are modifications.", UndoBoundaries::modificationsAndNoOthers);
        Sentence.holds(Sentence.TERMS, "The last 8 of them can be undone.", UndoBoundaries::lastEight);
        Sentence.holds(Sentence.TERMS, "The buffer, the error position, the failed command and the card are not "
            + "affected by undo and restore.", UndoBoundaries::whatUndoLeaves);
    }

    private static void undo() {
        Sentence.holds(45, "Undoes the last modification that can be undone.", UndoBoundaries::backAndForth);
        Sentence.holds(45, "Returns the number of modifications that can still be undone.",
            UndoBoundaries::countsDown);
        Sentence.holds(45, "Throws `IllegalStateException` if there is none", UndoBoundaries::nothingToUndo);
    }

    private static void snapshots() {
        Sentence.holds(46, "Saves the state as a snapshot, which replaces an earlier one.",
            UndoBoundaries::replacedSnapshots);
        Sentence.holds(46, "Returns the clock.", UndoBoundaries::savedClocks);
        Sentence.holds(47, "Restores the snapshot, which is kept.", UndoBoundaries::keptSnapshot);
        Sentence.holds(47, "Afterwards nothing can be undone.", UndoBoundaries::nothingToUndoBehindRestore);
        Sentence.holds(47, "Throws `IllegalStateException` if there is no snapshot", UndoBoundaries::noSnapshot);
    }

    private static void exceptions() {
        Sentence.holds(Sentence.TERMS, "A method that throws an exception changes nothing, except that execute empties "
            + "the buffer.", UndoBoundaries::refusedInARow);
        Sentence.holds(Sentence.TERMS, "If several exceptions apply, the one that is documented first is thrown.",
            UndoBoundaries::severalExceptions);
        Sentence.holds(Sentence.TERMS, "All integer divisions are rounded down.", UndoBoundaries::roundedDown);
    }

    private static void modificationsAndNoOthers() {
        List<Function<PendulumGym, Object>> modifications = List.of(gym -> gym.addPendulum(7), gym -> gym.push(2, 9),
            gym -> gym.catchPendulum(0), gym -> gym.setFriction(10), gym -> gym.addLeg(9), gym -> gym.removeLeg(0),
            gym -> gym.pass(1), gym -> Check.run(gym, "tick 1;leg 3"));
        for (int index = 0; index < modifications.size(); index++) {
            PendulumGym gym = Gyms.ready();
            gym.save();
            gym.restore();
            String before = Check.stateOf(gym);
            modifications.get(index).apply(gym);
            Sentence.due("undo() of modification " + index, gym.undo(), 0);
            Sentence.due("the state before modification " + index, Check.stateOf(gym), before);
        }
        questions().forEach(question -> Sentence.changesNothing("a question", Gyms::busy, question));
        PendulumGym gym = Gyms.quiet();
        gym.type('a');
        gym.writeCard(0);
        gym.save();
        Sentence.due("undo() behind type, writeCard and save", gym.undo(), 1);
        Sentence.due("amplitudeOf(0)", gym.amplitudeOf(0), 0);
    }

    private static List<Function<PendulumGym, Object>> questions() {
        List<Function<PendulumGym, Object>> questions = new ArrayList<>(List.of(PendulumGym::pendulumCount,
            PendulumGym::clock, PendulumGym::friction, PendulumGym::meetingPairs, PendulumGym::legCount,
            PendulumGym::leastRelay, PendulumGym::leastRelayByTrying, PendulumGym::meanAmplitude));
        questions.addAll(List.of(PendulumGym::errorPosition, PendulumGym::failedCommand, gym -> gym.lengthOf(0),
            gym -> gym.classOf(0), gym -> gym.amplitudeOf(0), gym -> gym.startOf(0), gym -> gym.periodOf(0),
            gym -> gym.periodByEstimates(0), gym -> gym.swingsOf(0), gym -> gym.recordOf(0)));
        questions.addAll(List.of(gym -> gym.holderOf(0), gym -> gym.pendulumAtRank(0), gym -> gym.swingsToRest(0),
            gym -> gym.swingsToRestByTable(0), gym -> gym.restTick(0), gym -> gym.amplitudeAfter(0, 500),
            gym -> gym.meeting(0, 3), gym -> gym.meetingByDivisors(0, 3), gym -> gym.cycleOf(0, 1)));
        questions.addAll(List.of(gym -> gym.wishOf(0), gym -> gym.runnerOf(2), gym -> gym.fewestFor(26),
            gym -> gym.fewestForBySets(26), gym -> gym.exactSets(0), gym -> gym.cardAt(0)));
        return questions;
    }

    private static void lastEight() {
        for (int modifications : new int[] {1, 2, 7, 8, 9, 10, 15, 16, 17, 100}) {
            PendulumGym gym = new PendulumGym();
            for (int ticks = 1; ticks <= modifications; ticks++) {
                gym.pass(ticks);
            }
            int undone = Math.min(modifications, 8);
            int clock = modifications * (modifications + 1) / 2;
            for (int round = 0; round < undone; round++) {
                Sentence.due("undo() of " + modifications, gym.undo(), undone - 1 - round);
                clock -= modifications - round;
                Sentence.due("clock() of " + modifications, gym.clock(), clock);
            }
            Sentence.due("one undo() more of " + modifications, Check.outcome(gym::undo), "throws IllegalStateException");
            Sentence.due("clock() behind it", gym.clock(), clock);
        }
        PendulumGym gym = new PendulumGym();
        for (int round = 0; round < 9; round++) {
            Check.run(gym, "tick 1;tick 1");
        }
        for (int left = 7; left >= 0; left--) {
            Sentence.due("undo() of programs", gym.undo(), left);
        }
        Sentence.due("clock() behind the programs", gym.clock(), 2);
    }

    private static void whatUndoLeaves() {
        PendulumGym gym = Gyms.busy();
        gym.undo();
        left("undo()", gym);
        PendulumGym allUndone = Gyms.busy();
        for (int round = 0; round < 8; round++) {
            allUndone.undo();
        }
        left("8 times undo()", allUndone);
        PendulumGym restored = Gyms.busy();
        restored.restore();
        left("restore()", restored);
    }

    private static void left(String what, PendulumGym gym) {
        Sentence.due("errorPosition() behind " + what, gym.errorPosition(), 4);
        Sentence.due("failedCommand() behind " + what, gym.failedCommand(), 1);
        Sentence.due("the card behind " + what, Check.written(gym, 11), "0:4cm 36@2*");
        Sentence.due("the end of the card behind " + what, Check.outcome(() -> gym.cardAt(11)),
            "throws IndexOutOfBoundsException");
        int pendulums = gym.pendulumCount();
        Sentence.due("the buffer behind " + what, gym.type('0'), Gyms.TYPED.length() + 1);
        Sentence.due("execute() behind " + what, Check.outcome(gym::execute), "2");
        Sentence.due("what was executed behind " + what, gym.lengthOf(pendulums), 50);
    }

    private static void backAndForth() {
        PendulumGym gym = new PendulumGym();
        int clock = 0;
        // The ring goes round several times, forwards by 5 and backwards by 3.
        for (int round = 0; round < 10; round++) {
            for (int step = 0; step < 5; step++) {
                gym.pass(10);
            }
            for (int step = 0; step < 3; step++) {
                gym.undo();
            }
            clock += 20;
            Sentence.due("clock() of round " + round, gym.clock(), clock);
        }
        // Of what was done before the last forward steps, 3 modifications were still kept.
        for (int left = 4; left >= 0; left--) {
            Sentence.due("undo() at the end", gym.undo(), left);
            clock -= 10;
            Sentence.due("clock() at the end", gym.clock(), clock);
        }
        Sentence.due("undo() behind the end", Check.outcome(gym::undo), "throws IllegalStateException");
        PendulumGym pushed = Check.gymWith(1);
        pushed.push(0, 50);
        pushed.pass(7);
        String before = Check.stateOf(pushed);
        pushed.catchPendulum(0);
        pushed.push(0, 60);
        Sentence.due("the later starting tick", pushed.startOf(0), 7);
        pushed.undo();
        pushed.undo();
        Sentence.due("the earlier starting tick, and all beside it", Check.stateOf(pushed), before);
        pushed.undo();
        pushed.undo();
        Sentence.due("recordOf(SHORT) undone", Check.outcome(() -> pushed.recordOf(0)), "throws NoSuchElementException");
        pushed.undo();
        Sentence.due("pendulumCount() undone", pushed.pendulumCount(), 0);
        Sentence.due("addPendulum(99) in its place", pushed.addPendulum(99), 0);
        Sentence.due("periodOf(0) of the new one", pushed.periodOf(0), 59);
    }

    private static void countsDown() {
        PendulumGym gym = new PendulumGym();
        for (int ticks = 1; ticks <= 20; ticks++) {
            gym.pass(1);
            Sentence.due("undo() after " + ticks, gym.undo(), Math.min(ticks - 1, 7));
            gym.pass(1);
        }
        for (int left = 7; left >= 0; left--) {
            Sentence.due("undo() down to nothing", gym.undo(), left);
        }
        gym.pass(1);
        Sentence.due("undo() of one alone", gym.undo(), 0);
    }

    private static void nothingToUndo() {
        Sentence.refused("undo() of a new object", Sentence.STATE, PendulumGym::new, PendulumGym::undo);
        Supplier<PendulumGym> emptied = () -> {
            PendulumGym gym = Gyms.busy();
            for (int round = 0; round < 8; round++) {
                gym.undo();
            }
            return gym;
        };
        Sentence.refused("a ninth undo()", Sentence.STATE, emptied, PendulumGym::undo);
        Supplier<PendulumGym> restored = () -> {
            PendulumGym gym = Gyms.busy();
            gym.restore();
            return gym;
        };
        Sentence.refused("undo() behind restore()", Sentence.STATE, restored, PendulumGym::undo);
        Supplier<PendulumGym> refused = () -> {
            PendulumGym gym = new PendulumGym();
            Check.outcome(() -> gym.pass(0));
            Check.run(gym, "tick 1;tick 0");
            gym.save();
            return gym;
        };
        Sentence.refused("undo() behind refused calls", Sentence.STATE, refused, PendulumGym::undo);
    }

    private static void replacedSnapshots() {
        PendulumGym gym = new PendulumGym();
        gym.save();
        gym.addPendulum(25);
        gym.push(0, 40);
        gym.addLeg(20);
        String first = Check.stateOf(gym);
        gym.save();
        gym.pass(100);
        gym.setFriction(30);
        gym.removeLeg(0);
        gym.addPendulum(99);
        Sentence.due("another state than the saved one", Check.stateOf(gym).equals(first), false);
        gym.restore();
        Sentence.due("the second snapshot", Check.stateOf(gym), first);
        gym.pass(60);
        String later = Check.stateOf(gym);
        gym.save();
        gym.save();
        gym.catchPendulum(0);
        gym.restore();
        Sentence.due("a snapshot saved twice", Check.stateOf(gym), later);
        PendulumGym undone = new PendulumGym();
        undone.pass(5);
        undone.save();
        undone.undo();
        Sentence.due("undo() below the snapshot", undone.clock(), 0);
        Sentence.due("the snapshot that undo leaves", undone.restore(), 5);
        PendulumGym other = Check.gymWith(30);
        other.push(0, 12);
        other.addLeg(5);
        String state = Check.stateOf(other);
        other.save();
        other.undo();
        other.undo();
        other.undo();
        other.addPendulum(99);
        other.addLeg(6);
        other.pass(3);
        other.push(0, 60);
        other.restore();
        Sentence.due("the snapshot that nothing else has overwritten", Check.stateOf(other), state);
    }

    private static void savedClocks() {
        PendulumGym gym = new PendulumGym();
        Sentence.due("save() at first", gym.save(), 0);
        gym.pass(500);
        Sentence.due("save() later", gym.save(), 500);
        gym.undo();
        Sentence.due("save() undone", gym.save(), 0);
        Sentence.changesNothingButTheSnapshot("save()", Gyms::busy, PendulumGym::save);
    }

    private static void keptSnapshot() {
        PendulumGym gym = Gyms.ready();
        gym.restore();
        String saved = Check.stateOf(gym);
        for (int round = 0; round < 3; round++) {
            gym.pass(30);
            gym.addLeg(5);
            gym.push(2, 60);
            Sentence.due("restore() number " + round, gym.restore(), 2);
            Sentence.due("the state of it", Check.stateOf(gym), saved);
        }
        gym.pass(1);
        gym.undo();
        Sentence.due("restore() behind undo()", gym.restore(), 2);
    }

    private static void nothingToUndoBehindRestore() {
        PendulumGym gym = Gyms.ready();
        gym.restore();
        Sentence.due("undo() behind restore()", Check.outcome(gym::undo), "throws IllegalStateException");
        Sentence.due("clock() behind it", gym.clock(), 2);
        for (int ticks = 1; ticks <= 9; ticks++) {
            gym.pass(ticks);
        }
        for (int left = 7; left >= 0; left--) {
            Sentence.due("undo() of what came behind", gym.undo(), left);
        }
        Sentence.due("clock() then", gym.clock(), 3);
        gym.restore();
        gym.restore();
        Sentence.due("undo() behind two of them", Check.outcome(gym::undo), "throws IllegalStateException");
    }

    private static void noSnapshot() {
        Sentence.refused("restore() of a new object", Sentence.STATE, PendulumGym::new, PendulumGym::restore);
        Sentence.refused("restore() of one in use", Sentence.STATE, Gyms::quiet, PendulumGym::restore);
        Sentence.refused("restore() of a full one", Sentence.STATE, Gyms::full, PendulumGym::restore);
        PendulumGym gym = Gyms.quiet();
        gym.save();
        Sentence.due("restore() with a snapshot", gym.restore(), 0);
    }

    private static void refusedInARow() {
        List<Function<PendulumGym, Object>> calls = List.of(gym -> gym.addPendulum(0), gym -> gym.push(0, 61),
            gym -> gym.catchPendulum(2), gym -> gym.setFriction(31), gym -> gym.pass(501), gym -> gym.addLeg(61),
            gym -> gym.removeLeg(3), gym -> gym.writeCard(4), gym -> gym.type((char) 127), gym -> gym.startOf(2));
        Function<PendulumGym, Object> all = gym -> {
            String outcome = "";
            for (Function<PendulumGym, Object> call : calls) {
                outcome += Check.outcome(() -> call.apply(gym)).startsWith("throws") ? "refused " : "done ";
            }
            return outcome;
        };
        Sentence.due("the calls", all.apply(Gyms.busy()), "refused ".repeat(calls.size()));
        Sentence.changesNothing("refused calls in a row", Gyms::busy, all);
        PendulumGym gym = Gyms.busy();
        gym.type('x');
        Sentence.due("execute() of a malformed program", Check.outcome(gym::execute), "throws IllegalArgumentException");
        Sentence.due("the buffer behind it", gym.type('x'), 1);
        Check.outcome(gym::execute);
        Sentence.due("execute() of a failing program", Check.run(gym, "tick 0"), "throws IllegalStateException");
        Sentence.due("the buffer behind that", gym.type('x'), 1);
    }

    private static void severalExceptions() {
        Sentence.refused("addPendulum(0) of eight", Sentence.ARGUMENT, Gyms::full, gym -> gym.addPendulum(0));
        Sentence.refused("addPendulum(100) of eight", Sentence.ARGUMENT, Gyms::full, gym -> gym.addPendulum(100));
        Sentence.refused("push(4, 0)", Sentence.INDEX, Gyms::busy, gym -> gym.push(4, 0));
        Sentence.refused("push(-1, 61)", Sentence.INDEX, Gyms::busy, gym -> gym.push(-1, 61));
        Sentence.refused("push(3, 61)", Sentence.ARGUMENT, Gyms::busy, gym -> gym.push(3, 61));
        Sentence.refused("push(3, the greatest)", Sentence.ARGUMENT, Gyms::busy, gym -> gym.push(3, Integer.MAX_VALUE));
        Sentence.refused("amplitudeAfter(4, -1)", Sentence.INDEX, Gyms::busy, gym -> gym.amplitudeAfter(4, -1));
        Sentence.refused("amplitudeAfter(-1, 501)", Sentence.INDEX, Gyms::busy, gym -> gym.amplitudeAfter(-1, 501));
        Sentence.refused("amplitudeAfter(2, 501) at rest", Sentence.ARGUMENT, Gyms::busy,
            gym -> gym.amplitudeAfter(2, 501));
        Sentence.refused("meeting(2, 4)", Sentence.INDEX, Gyms::busy, gym -> gym.meeting(2, 4));
        Sentence.refused("meeting(4, 2)", Sentence.INDEX, Gyms::busy, gym -> gym.meeting(4, 2));
        Sentence.refused("meetingByDivisors(2, 4)", Sentence.INDEX, Gyms::busy, gym -> gym.meetingByDivisors(2, 4));
        Sentence.refused("meetingByDivisors(4, 2)", Sentence.INDEX, Gyms::busy, gym -> gym.meetingByDivisors(4, 2));
        Sentence.refused("addLeg(0) behind six", Sentence.ARGUMENT, Gyms::full, gym -> gym.addLeg(0));
        Sentence.refused("addLeg(61) behind six", Sentence.ARGUMENT, Gyms::full, gym -> gym.addLeg(61));
        Supplier<PendulumGym> legsAlone = () -> Check.withLegs(new PendulumGym(), 1, 2);
        Sentence.refused("runnerOf(2) of two legs alone", Sentence.INDEX, legsAlone, gym -> gym.runnerOf(2));
        Sentence.refused("runnerOf(-1) of two legs alone", Sentence.INDEX, legsAlone, gym -> gym.runnerOf(-1));
        Sentence.refused("fewestFor(1000)", Sentence.ARGUMENT, Gyms::busy, gym -> gym.fewestFor(1000));
        Sentence.refused("fewestForBySets(1000)", Sentence.ARGUMENT, Gyms::busy, gym -> gym.fewestForBySets(1000));
        Sentence.refused("type(31) behind 60", Sentence.ARGUMENT, Gyms::full, gym -> gym.type((char) 31));
        Sentence.refused("type(127) behind 60", Sentence.ARGUMENT, Gyms::full, gym -> gym.type((char) 127));
        Sentence.refused("recordOf(3) without a push", Sentence.ARGUMENT, PendulumGym::new, gym -> gym.recordOf(3));
        Sentence.refused("holderOf(-1) without a push", Sentence.ARGUMENT, PendulumGym::new, gym -> gym.holderOf(-1));
        Sentence.malformed("tick 0;tick 0;", 14, Gyms::ready);
    }

    private static void roundedDown() {
        PendulumGym gym = Check.gymWith(1, 5, 91);
        gym.push(0, 39);
        gym.pass(6);
        Sentence.due("39 * 5 / 100", gym.amplitudeOf(0), 38);
        Sentence.due("168 / 28", gym.exactSets(28), 1);
        Sentence.due("168 / 13", gym.exactSets(12), 1);
        Sentence.due("168 / 57", gym.exactSets(2), 1);
    }
}
