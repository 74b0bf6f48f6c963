import java.util.function.Supplier;
import java.util.function.ToIntFunction;

/** The boundaries of promises 20 to 27, and of the terms about meetings. */
final class PredictionBoundaries {
    private static final String NO_PENDULUM = "Throws `IndexOutOfBoundsException` if there is no such pendulum";
    private static final String NEITHER = "Throws `IndexOutOfBoundsException` if there is no such pendulum, for either";
    private static final String ONE_AT_REST = "Throws `IllegalStateException` if one of them is at rest";
    private static final String NEVER = "Throws `NoSuchElementException` if they never meet";
    private static final String PERHAPS_THE_SAME = "the other pendulum, possibly the same";

    /** meeting, meetingByDivisors or cycleOf. */
    interface OfTwo {
        int tick(PendulumGym gym, int one, int other);
    }

    private PredictionBoundaries() {
    }

    static void all() {
        comingToRest();
        amplitudes();
        meetings(24, "meeting", PendulumGym::meeting);
        meetings(25, "meetingByDivisors", PendulumGym::meetingByDivisors);
        terms();
        pairsAndCycles();
    }

    private static void comingToRest() {
        Sentence.holds(20, "Returns the number of swings, 0 if it is at rest.",
            () -> swingsToRest(gym -> gym.swingsToRest(0)));
        Sentence.holds(20, "Returns the number of swings after which a pendulum will be at rest, swing by swing.",
            () -> untilRest(gym -> gym.swingsToRest(0)));
        Sentence.holds(20, NO_PENDULUM, () -> Sentence.noSuchPendulum("swingsToRest", PendulumGym::swingsToRest));
        Sentence.holds(21, "Returns the number of swings, 0 if it is at rest.",
            () -> swingsToRest(gym -> gym.swingsToRestByTable(0)));
        Sentence.holds(21, "Returns the same number as swingsToRest, from a table of the numbers for all amplitudes.",
            () -> untilRest(gym -> gym.swingsToRestByTable(0)));
        Sentence.holds(21, NO_PENDULUM,
            () -> Sentence.noSuchPendulum("swingsToRestByTable", PendulumGym::swingsToRestByTable));
        Sentence.holds(22, "Returns the tick in which a pendulum will come to rest.",
            PredictionBoundaries::restTickOnTheEdge);
        Sentence.holds(22, NO_PENDULUM, () -> Sentence.noSuchPendulum("restTick", PendulumGym::restTick));
        Sentence.holds(22, "Throws `NoSuchElementException` if it is at rest", PredictionBoundaries::noRestTickAtRest);
    }

    private static void amplitudes() {
        Sentence.holds(23, "the number of ticks, 0 to 500", PredictionBoundaries::ticksOnTheEdge);
        Sentence.holds(23, "Returns the amplitude that a pendulum would have after ticks.",
            PredictionBoundaries::ticksBesideSwings);
        Sentence.holds(23, NO_PENDULUM,
            () -> Sentence.noSuchPendulum("amplitudeAfter 0", (gym, number) -> gym.amplitudeAfter(number, 0)));
        Sentence.holds(23, "Throws `IllegalArgumentException` if the number of ticks is out of range",
            PredictionBoundaries::ticksOutside);
    }

    private static void meetings(int promise, String name, OfTwo meeting) {
        Sentence.holds(promise, PERHAPS_THE_SAME, () -> withItself(meeting));
        Sentence.holds(promise, NEITHER, () -> noSuchPair(name, meeting));
        Sentence.holds(promise, ONE_AT_REST, () -> oneAtRest(name, meeting));
        Sentence.holds(promise, NEVER, () -> never(name, meeting));
        if (promise == 24) {
            Sentence.holds(promise, "Returns the first tick after the present one in which two pendulums meet, found "
                + "tick by tick.", () -> aroundMeetings(meeting));
        } else {
            Sentence.holds(promise, "Returns the same tick as meeting, found from the greatest common divisor of the "
                + "periods.", () -> aroundMeetings(meeting));
        }
    }

    private static void terms() {
        Sentence.holds(Sentence.TERMS, "Pendulums that are not at rest meet in a tick if the tick minus the starting "
            + "tick is divisible by the period for each of them.", PredictionBoundaries::differentStarts);
        Sentence.holds(Sentence.TERMS, "For meetings, it does not matter whether the pendulums come to rest before.",
            PredictionBoundaries::restingBeforeTheMeeting);
    }

    private static void pairsAndCycles() {
        Sentence.holds(26, "Returns the number of pairs of different pendulums that will meet.",
            PredictionBoundaries::pairs);
        Sentence.holds(27, "Returns the number of ticks, the least common multiple of the periods.",
            PredictionBoundaries::cycles);
        Sentence.holds(27, PERHAPS_THE_SAME, PredictionBoundaries::cycleWithItself);
        Sentence.holds(27, NEITHER, () -> noSuchPair("cycleOf", PendulumGym::cycleOf));
    }

    private static void swingsToRest(ToIntFunction<PendulumGym> asked) {
        PendulumGym gym = Check.gymWith(1);
        Sentence.due("never pushed", asked.applyAsInt(gym), 0);
        gym.push(0, 1);
        Sentence.due("with 1 degree", asked.applyAsInt(gym), 1);
        gym.pass(5);
        Sentence.due("with 1 degree, a tick before its swing", asked.applyAsInt(gym), 1);
        gym.pass(1);
        Sentence.due("come to rest", asked.applyAsInt(gym), 0);
        gym.push(0, 60);
        gym.setFriction(0);
        Sentence.due("with 60 degrees without friction", asked.applyAsInt(gym), 60);
        gym.setFriction(30);
        // 60, 42, 30, 21, 15, 11, 8, 6, 5, 4, 3, 2, 1, 0
        Sentence.due("with 60 degrees and the greatest friction", asked.applyAsInt(gym), 13);
        gym.catchPendulum(0);
        Sentence.due("caught", asked.applyAsInt(gym), 0);
    }

    private static void untilRest(ToIntFunction<PendulumGym> asked) {
        for (int friction : new int[] {0, 1, 5, 29, 30}) {
            for (int degrees : new int[] {1, 2, 19, 20, 39, 40, 59, 60}) {
                PendulumGym gym = Check.gymWith(1);
                gym.setFriction(friction);
                gym.push(0, degrees);
                int told = asked.applyAsInt(gym);
                gym.pass(500);
                Sentence.due("from " + degrees + " with friction " + friction, told, gym.swingsOf(0));
                Sentence.due("what is left then", gym.amplitudeOf(0), 0);
            }
        }
    }

    private static void restTickOnTheEdge() {
        PendulumGym gym = Check.gymWith(1, 99);
        gym.pass(7);
        gym.push(0, 1);
        Sentence.due("restTick(0) in its starting tick", gym.restTick(0), 13);
        gym.pass(5);
        Sentence.due("restTick(0) a tick before", gym.restTick(0), 13);
        gym.push(0, 1);
        Sentence.due("restTick(0) pushed a tick before", gym.restTick(0), 19);
        gym.pass(1);
        Sentence.due("restTick(0) in the tick of a swing", gym.restTick(0), 19);
        gym.pass(5);
        Sentence.due("amplitudeOf(0) a tick before it rests", gym.amplitudeOf(0), 1);
        gym.pass(1);
        Sentence.due("amplitudeOf(0) in the tick", gym.amplitudeOf(0), 0);
        gym.push(1, 60);
        gym.setFriction(0);
        Sentence.due("restTick(1), the farthest", gym.restTick(1), 19 + 60 * 59);
    }

    private static PendulumGym restedByItself() {
        PendulumGym gym = Check.gymWith(1, 4);
        gym.push(0, 1);
        gym.push(1, 60);
        gym.pass(6);
        return gym;
    }

    private static PendulumGym caught() {
        PendulumGym gym = Gyms.busy();
        gym.catchPendulum(3);
        return gym;
    }

    private static void noRestTickAtRest() {
        Sentence.refused("restTick(2), never pushed", Sentence.MISSING, Gyms::busy, gym -> gym.restTick(2));
        Sentence.refused("restTick(3), caught", Sentence.MISSING, PredictionBoundaries::caught, gym -> gym.restTick(3));
        Sentence.refused("restTick(0), come to rest", Sentence.MISSING, PredictionBoundaries::restedByItself,
            gym -> gym.restTick(0));
        Sentence.due("restTick(3), just pushed with 60 degrees", Gyms.busy().restTick(3) > 14, true);
    }

    private static void ticksOnTheEdge() {
        PendulumGym gym = Check.gymWith(1, 99);
        gym.setFriction(0);
        gym.push(0, 60);
        gym.push(1, 9);
        gym.pass(6);
        Sentence.due("amplitudeAfter(0, 0)", gym.amplitudeAfter(0, 0), 59);
        Sentence.due("amplitudeAfter(0, 1)", gym.amplitudeAfter(0, 1), 59);
        Sentence.due("amplitudeAfter(1, 465)", gym.amplitudeAfter(1, 465), 2);
        Sentence.due("amplitudeAfter(1, 466)", gym.amplitudeAfter(1, 466), 1);
        Sentence.due("amplitudeAfter(1, 499)", gym.amplitudeAfter(1, 499), 1);
        Sentence.due("amplitudeAfter(1, 500)", gym.amplitudeAfter(1, 500), 1);
        Sentence.due("amplitudeAfter(0, 500)", gym.amplitudeAfter(0, 500), 0);
        gym.pass(30);
        Sentence.due("amplitudeAfter(1, 495), in whose last tick it swings", gym.amplitudeAfter(1, 495), 0);
        Sentence.due("amplitudeAfter(1, 494), a tick before", gym.amplitudeAfter(1, 494), 1);
        PendulumGym last = Check.gymWith(25);
        last.push(0, 60);
        last.setFriction(0);
        last.pass(10);
        Sentence.due("amplitudeAfter(0, 500), in whose last tick it swings", last.amplitudeAfter(0, 500), 43);
        Sentence.due("amplitudeAfter(0, 499), a tick before", last.amplitudeAfter(0, 499), 44);
    }

    private static void ticksBesideSwings() {
        for (int ticks : new int[] {1, 2, 3, 4, 5, 8, 9, 10, 15, 16, 100, 500}) {
            PendulumGym gym = Check.gymWith(1, 4);
            gym.push(0, 23);
            gym.pass(2);
            gym.push(1, 60);
            int first = gym.amplitudeAfter(0, ticks);
            int second = gym.amplitudeAfter(1, ticks);
            gym.pass(ticks);
            Sentence.due("amplitudeAfter(0, " + ticks + ")", first, gym.amplitudeOf(0));
            Sentence.due("amplitudeAfter(1, " + ticks + ")", second, gym.amplitudeOf(1));
        }
        Sentence.changesNothing("amplitudeAfter(0, 500)", Gyms::busy, gym -> gym.amplitudeAfter(0, 500));
        Sentence.due("amplitudeAfter(2, 500) at rest", Gyms.busy().amplitudeAfter(2, 500), 0);
        Sentence.due("amplitudeAfter(2, 0) at rest", Gyms.busy().amplitudeAfter(2, 0), 0);
    }

    private static void ticksOutside() {
        for (int number : new int[] {0, 2}) {
            Sentence.refusedOutside("amplitudeAfter " + number, 0, 500, Gyms::busy,
                (gym, ticks) -> gym.amplitudeAfter(number, ticks));
        }
    }

    private static void withItself(OfTwo meeting) {
        PendulumGym gym = Check.gymWith(1, 99);
        gym.pass(4);
        gym.push(0, 2);
        gym.push(1, 1);
        Sentence.due("(0, 0) in its starting tick", meeting.tick(gym, 0, 0), 10);
        Sentence.due("(1, 1) in its starting tick", meeting.tick(gym, 1, 1), 63);
        gym.pass(5);
        Sentence.due("(0, 0) a tick before", meeting.tick(gym, 0, 0), 10);
        gym.pass(1);
        Sentence.due("(0, 0) in the tick", meeting.tick(gym, 0, 0), 16);
    }

    private static void noSuchPair(String name, OfTwo asked) {
        int[][] pairs = {{0, 4}, {4, 0}, {4, 4}, {0, -1}, {-1, 0}, {-1, -1}, {2, 4}, {4, 2}, {-1, 4},
            {0, Integer.MAX_VALUE}, {Integer.MAX_VALUE, 0}, {0, Integer.MIN_VALUE}, {Integer.MIN_VALUE, 0}};
        for (int[] pair : pairs) {
            Sentence.refused(name + "(" + pair[0] + ", " + pair[1] + ")", Sentence.INDEX, Gyms::busy,
                gym -> asked.tick(gym, pair[0], pair[1]));
        }
        Sentence.refused(name + "(0, 8)", Sentence.INDEX, Gyms::full, gym -> asked.tick(gym, 0, 8));
        Sentence.refused(name + "(8, 0)", Sentence.INDEX, Gyms::full, gym -> asked.tick(gym, 8, 0));
        Sentence.refused(name + "(0, 0) of none", Sentence.INDEX, PendulumGym::new, gym -> asked.tick(gym, 0, 0));
        Sentence.changesNothing(name + "(7, 0) of eight", Gyms::full, gym -> asked.tick(gym, 7, 0));
    }

    private static void oneAtRest(String name, OfTwo meeting) {
        Sentence.refused(name + "(0, 2)", Sentence.STATE, Gyms::busy, gym -> meeting.tick(gym, 0, 2));
        Sentence.refused(name + "(2, 0)", Sentence.STATE, Gyms::busy, gym -> meeting.tick(gym, 2, 0));
        Sentence.refused(name + "(2, 2)", Sentence.STATE, Gyms::busy, gym -> meeting.tick(gym, 2, 2));
        Sentence.refused(name + "(0, 3), the other caught", Sentence.STATE, PredictionBoundaries::caught,
            gym -> meeting.tick(gym, 0, 3));
        Sentence.refused(name + "(0, 1), the one come to rest", Sentence.STATE, PredictionBoundaries::restedByItself,
            gym -> meeting.tick(gym, 0, 1));
        // As far as the starting ticks go, these two would never meet; the rest is told first.
        Supplier<PendulumGym> apart = () -> {
            PendulumGym gym = neverMeeting();
            gym.catchPendulum(1);
            return gym;
        };
        Sentence.refused(name + "(0, 1), never meeting", Sentence.STATE, apart, gym -> meeting.tick(gym, 0, 1));
    }

    /** Two of period 12 and one of period 30, whose starting ticks 0, 1 and 5 differ by no common divisor. */
    private static PendulumGym neverMeeting() {
        PendulumGym gym = Check.gymWith(4, 4, 25);
        gym.push(0, 60);
        gym.pass(1);
        gym.push(1, 60);
        gym.pass(4);
        gym.push(2, 60);
        return gym;
    }

    private static void never(String name, OfTwo meeting) {
        int[][] pairs = {{0, 1}, {1, 0}, {0, 2}, {2, 0}, {1, 2}, {2, 1}};
        for (int[] pair : pairs) {
            Sentence.refused(name + "(" + pair[0] + ", " + pair[1] + ")", Sentence.MISSING,
                PredictionBoundaries::neverMeeting, gym -> meeting.tick(gym, pair[0], pair[1]));
        }
        for (int apart = 0; apart <= 12; apart++) {
            PendulumGym gym = Check.gymWith(4, 9);
            gym.push(0, 60);
            if (apart > 0) {
                gym.pass(apart);
            }
            gym.push(1, 60);
            // The periods 12 and 18 have the divisor 6.
            boolean isRefused = Check.outcome(() -> meeting.tick(gym, 0, 1)).equals("throws NoSuchElementException");
            Sentence.due("starting ticks that differ by " + apart, isRefused, apart % 6 != 0);
        }
    }

    private static void aroundMeetings(OfTwo meeting) {
        PendulumGym gym = Check.gymWith(4, 9);
        gym.setFriction(0);
        gym.push(0, 60);
        gym.push(1, 60);
        Sentence.due("in a meeting", meeting.tick(gym, 0, 1), 36);
        gym.pass(1);
        Sentence.due("a tick after a meeting", meeting.tick(gym, 0, 1), 36);
        gym.pass(34);
        Sentence.due("a tick before a meeting", meeting.tick(gym, 0, 1), 36);
        Sentence.due("the other way round", meeting.tick(gym, 1, 0), 36);
        gym.pass(1);
        Sentence.due("in the next meeting", meeting.tick(gym, 0, 1), 72);
        PendulumGym far = Check.gymWith(99, 94);
        far.push(0, 1);
        far.push(1, 1);
        Sentence.due("the longest way", meeting.tick(far, 0, 1), 59 * 58);
        Sentence.due("the longest way round", meeting.tick(far, 1, 0), 59 * 58);
        PendulumGym shifted = Check.gymWith(99, 94);
        shifted.push(0, 1);
        shifted.pass(1);
        shifted.push(1, 1);
        // 59 k = 1 + 58 m for the first time with k = m = 1, and so in 59 and a cycle later.
        Sentence.due("starting ticks that differ by 1", meeting.tick(shifted, 0, 1), 59);
        shifted.push(0, 59);
        shifted.push(1, 59);
        shifted.pass(58);
        Sentence.due("a cycle later", meeting.tick(shifted, 0, 1), 59 + 59 * 58);
        Sentence.due("a cycle later, round", meeting.tick(shifted, 1, 0), 59 + 59 * 58);
    }

    private static void differentStarts() {
        PendulumGym gym = Check.gymWith(4, 25, 4);
        gym.pass(5);
        gym.push(0, 60);
        gym.pass(6);
        gym.push(1, 60);
        // 5 + 12 k and 11 + 30 m: 41 is the first one.
        Sentence.due("meeting(0, 1)", gym.meeting(0, 1), 41);
        Sentence.due("meetingByDivisors(0, 1)", gym.meetingByDivisors(0, 1), 41);
        gym.pass(6);
        gym.push(2, 60);
        Sentence.due("meeting(0, 2), starting in a swing of the other", gym.meeting(0, 2), 29);
        Sentence.due("meetingByDivisors(0, 2)", gym.meetingByDivisors(0, 2), 29);
    }

    private static void restingBeforeTheMeeting() {
        PendulumGym gym = Check.gymWith(1, 99);
        gym.push(0, 1);
        gym.push(1, 1);
        Sentence.due("meeting(0, 1)", gym.meeting(0, 1), 354);
        Sentence.due("meetingByDivisors(0, 1)", gym.meetingByDivisors(0, 1), 354);
        Sentence.due("meetingPairs()", gym.meetingPairs(), 1);
        gym.pass(5);
        Sentence.due("meeting(0, 1) a tick before the rest", gym.meeting(0, 1), 354);
        gym.pass(1);
        Sentence.due("meeting(0, 1) at rest", Check.outcome(() -> gym.meeting(0, 1)), "throws IllegalStateException");
        Sentence.due("meetingPairs() at rest", gym.meetingPairs(), 0);
    }

    private static void pairs() {
        PendulumGym gym = new PendulumGym();
        Sentence.due("meetingPairs() of none", gym.meetingPairs(), 0);
        int[] lengths = {1, 4, 9, 16, 25, 36, 49, 64};
        for (int number = 0; number < lengths.length; number++) {
            gym.addPendulum(lengths[number]);
            Sentence.due("meetingPairs() with one at rest", gym.meetingPairs(), number * (number - 1) / 2);
            gym.push(number, 60);
            Sentence.due("meetingPairs() of " + (number + 1), gym.meetingPairs(), (number + 1) * number / 2);
        }
        PendulumGym apart = neverMeeting();
        Sentence.due("meetingPairs() that never meet", apart.meetingPairs(), 0);
        apart.catchPendulum(2);
        apart.pass(7);
        apart.push(2, 60);
        // In tick 12 it starts with pendulum 0.
        Sentence.due("meetingPairs() with one that does", apart.meetingPairs(), 1);
    }

    private static void cycles() {
        PendulumGym gym = Check.gymWith(1, 4, 99, 94, 9, 4);
        Sentence.due("cycleOf(0, 1), the one divides the other", gym.cycleOf(0, 1), 12);
        Sentence.due("cycleOf(1, 0)", gym.cycleOf(1, 0), 12);
        Sentence.due("cycleOf(2, 3) without a common divisor", gym.cycleOf(2, 3), 59 * 58);
        Sentence.due("cycleOf(1, 4) with a common divisor", gym.cycleOf(1, 4), 36);
        Sentence.due("cycleOf(1, 5) of the same period", gym.cycleOf(1, 5), 12);
    }

    private static void cycleWithItself() {
        PendulumGym gym = Check.gymWith(1, 99);
        Sentence.due("cycleOf(0, 0)", gym.cycleOf(0, 0), 6);
        Sentence.due("cycleOf(1, 1)", gym.cycleOf(1, 1), 59);
    }
}
