import java.util.List;
import java.util.function.Supplier;

/** The boundaries of promises 1 to 19, and of the terms that they rest on. */
final class PendulumBoundaries {
    private static final String NO_PENDULUM = "Throws `IndexOutOfBoundsException` if there is no such pendulum";
    private static final String AT_REST = "Throws `NoSuchElementException` if it is at rest";
    private static final String NO_CLASS = "Throws `IllegalArgumentException` if there is no such class";
    private static final String NOT_PUSHED =
        "Throws `NoSuchElementException` if no pendulum of the class has been pushed so far";
    // With a full history of modifications, and with room in it.
    private static final List<Supplier<PendulumGym>> GYMS = List.of(Gyms::busy, Gyms::quiet);

    private PendulumBoundaries() {
    }

    static void all() {
        terms();
        changes();
        questions();
        records();
    }

    private static void terms() {
        Sentence.holds(Sentence.TERMS, "At most 8 pendulums exist, numbered from 0 in the order in which they were "
            + "added; they are never removed.", PendulumBoundaries::eightPendulums);
        Sentence.holds(Sentence.TERMS, "A pendulum has a length from 1 to 99 centimetres, an amplitude from 0 to 60 "
            + "degrees, at first 0, and a starting tick.", PendulumBoundaries::lengthsAndAmplitudes);
        Sentence.holds(Sentence.TERMS, "It is at rest if its amplitude is 0.", PendulumBoundaries::restIsNothingLeft);
        Sentence.holds(Sentence.TERMS, "Its period is the greatest whole number whose square is not greater than 36 "
            + "times its length, in ticks.", PendulumBoundaries::periodsBesideSquares);
        Sentence.holds(Sentence.TERMS, "A pendulum is SHORT if its length is less than 30, LONG if it is 60 or more, "
            + "and MIDDLE otherwise.", PendulumBoundaries::classesBesideTheirEdges);
        Sentence.holds(Sentence.TERMS, "`SHORT = 0, MIDDLE = 1, LONG = 2`", PendulumBoundaries::constants);
        Sentence.holds(Sentence.TERMS, "The record of a class is the greatest amplitude to which a pendulum of the "
            + "class has been pushed so far; its holder is the pendulum that was the first one to be pushed to it.",
            PendulumBoundaries::recordsAndTies);
        Sentence.holds(Sentence.TERMS, "The clock counts ticks from 0 on.", PendulumBoundaries::clockFromZero);
        Sentence.holds(Sentence.TERMS, "When a tick passes, the clock increases by 1; then each pendulum that is not at "
            + "rest completes a swing if the clock minus its starting tick is divisible by its period.",
            PendulumBoundaries::ticksAroundASwing);
        Sentence.holds(Sentence.TERMS, "When a swing is completed, the amplitude decreases by the loss: the amplitude "
            + "multiplied by the friction, divided by 100, but at least 1.", PendulumBoundaries::losses);
        Sentence.holds(Sentence.TERMS, "The friction is from 0 to 30, at first 5.", PendulumBoundaries::firstFriction);
        Sentence.holds(Sentence.TERMS, "When a pendulum at rest is pushed, the clock becomes its starting tick.",
            PendulumBoundaries::startOfEachRest);
        Sentence.holds(Sentence.TERMS, "A pendulum that is not at rest keeps its starting tick when it is pushed.",
            PendulumBoundaries::startIsKept);
    }

    private static void changes() {
        Sentence.holds(1, "Creates a gymnasium without pendulums and legs at tick 0.", PendulumBoundaries::newObject);
        Sentence.holds(2, "Adds a pendulum at rest.", PendulumBoundaries::addedAtRest);
        Sentence.holds(2, "the length in centimetres, 1 to 99", PendulumBoundaries::lengthsOnTheEdge);
        Sentence.holds(2, "Throws `IllegalArgumentException` if the length is out of range",
            PendulumBoundaries::lengthsOutside);
        Sentence.holds(2, "Throws `IllegalStateException` if there are 8 pendulums", PendulumBoundaries::ninthPendulum);
        Sentence.holds(3, "the number of degrees, 1 to 60", PendulumBoundaries::degreesOnTheEdge);
        Sentence.holds(3, NO_PENDULUM, () -> Sentence.noSuchPendulum("push 5", (gym, number) -> gym.push(number, 5)));
        Sentence.holds(3, "Throws `IllegalArgumentException` if the number of degrees is out of range",
            PendulumBoundaries::degreesOutside);
        Sentence.holds(3, "Throws `IllegalStateException` if the amplitude would be more than 60",
            PendulumBoundaries::pushedTooFar);
        Sentence.holds(4, "Catches a pendulum, which is at rest afterwards.", PendulumBoundaries::caughtIsAtRest);
        Sentence.holds(4, NO_PENDULUM, () -> Sentence.noSuchPendulum("catchPendulum", PendulumGym::catchPendulum));
        Sentence.holds(4, "Throws `IllegalStateException` if it is at rest", PendulumBoundaries::catchAtRest);
        Sentence.holds(5, "the new friction, 0 to 30", PendulumBoundaries::frictionsOnTheEdge);
        Sentence.holds(5, "Throws `IllegalArgumentException` if the friction is out of range",
            PendulumBoundaries::frictionsOutside);
        Sentence.holds(6, "the number of ticks, 1 to 500", PendulumBoundaries::ticksOnTheEdge);
        Sentence.holds(6, "Returns the number of swings that are completed in these ticks.",
            PendulumBoundaries::swingsOnTheEdge);
        Sentence.holds(6, "Throws `IllegalArgumentException` if the number of ticks is out of range",
            PendulumBoundaries::ticksOutside);
    }

    private static void questions() {
        Sentence.holds(7, "Returns the number of pendulums.", PendulumBoundaries::countOfPendulums);
        Sentence.holds(8, NO_PENDULUM, () -> Sentence.noSuchPendulum("lengthOf", PendulumGym::lengthOf));
        Sentence.holds(9, NO_PENDULUM, () -> Sentence.noSuchPendulum("classOf", PendulumGym::classOf));
        Sentence.holds(10, "Returns the amplitude in degrees, 0 if it is at rest.",
            PendulumBoundaries::amplitudesOnTheEdge);
        Sentence.holds(10, NO_PENDULUM, () -> Sentence.noSuchPendulum("amplitudeOf", PendulumGym::amplitudeOf));
        Sentence.holds(11, NO_PENDULUM, () -> Sentence.noSuchPendulum("startOf", PendulumGym::startOf));
        Sentence.holds(11, AT_REST, PendulumBoundaries::noStartAtRest);
        Sentence.holds(12, NO_PENDULUM, () -> Sentence.noSuchPendulum("periodOf", PendulumGym::periodOf));
        Sentence.holds(13, "Returns the same period as periodOf, found by improving an estimate.",
            PendulumBoundaries::estimatesBesideSquares);
        Sentence.holds(13, NO_PENDULUM,
            () -> Sentence.noSuchPendulum("periodByEstimates", PendulumGym::periodByEstimates));
        Sentence.holds(14, "Returns the number of swings that a pendulum has completed so far.",
            PendulumBoundaries::swingsBesideTheirTicks);
        Sentence.holds(14, NO_PENDULUM, () -> Sentence.noSuchPendulum("swingsOf", PendulumGym::swingsOf));
        Sentence.holds(15, "Returns the number of ticks that have passed.", PendulumBoundaries::clockFromZero);
        Sentence.holds(16, "Returns the friction.", PendulumBoundaries::firstFriction);
    }

    private static void records() {
        Sentence.holds(17, NO_CLASS,
            () -> Sentence.refusedOutside("recordOf", 0, 2, Gyms::busy, PendulumGym::recordOf));
        Sentence.holds(17, NOT_PUSHED, PendulumBoundaries::noRecordYet);
        Sentence.holds(18, NO_CLASS,
            () -> Sentence.refusedOutside("holderOf", 0, 2, Gyms::busy, PendulumGym::holderOf));
        Sentence.holds(18, NOT_PUSHED, PendulumBoundaries::noHolderYet);
        Sentence.holds(19, "Returns a pendulum in the order of amplitudes, the greatest first; of equal amplitudes the "
            + "greatest number of swings comes first, then the lowest number.", PendulumBoundaries::ranksOfEquals);
        Sentence.holds(19, "the rank, from 0", PendulumBoundaries::ranksOnTheEdge);
        Sentence.holds(19, "Throws `NoSuchElementException` if there is no such rank", PendulumBoundaries::noSuchRank);
    }

    private static void eightPendulums() {
        PendulumGym gym = new PendulumGym();
        for (int number = 0; number < 8; number++) {
            Sentence.due("addPendulum number " + number, gym.addPendulum(10 + number), number);
        }
        Sentence.due("a ninth", Check.outcome(() -> gym.addPendulum(10)), "throws IllegalStateException");
        gym.push(7, 1);
        gym.catchPendulum(7);
        gym.push(0, 1);
        gym.pass(500);
        Sentence.due("pendulumCount() when they have come to rest", gym.pendulumCount(), 8);
        for (int number = 0; number < 8; number++) {
            Sentence.due("lengthOf(" + number + ")", gym.lengthOf(number), 10 + number);
        }
    }

    private static void lengthsAndAmplitudes() {
        PendulumGym gym = Check.gymWith(1, 99);
        for (int number = 0; number < 2; number++) {
            Sentence.due("the amplitude of a new one", gym.amplitudeOf(number), 0);
            gym.push(number, 60);
            Sentence.due("the amplitude of one that has all", gym.amplitudeOf(number), 60);
        }
        Sentence.due("the shortest length", gym.lengthOf(0), 1);
        Sentence.due("the greatest length", gym.lengthOf(1), 99);
        gym.pass(500);
        Sentence.due("the amplitude does not fall below 0", gym.amplitudeOf(0), 0);
    }

    private static void restIsNothingLeft() {
        PendulumGym gym = Check.gymWith(1);
        gym.push(0, 1);
        Sentence.due("startOf(0) with 1 degree", Check.outcome(() -> gym.startOf(0)), "0");
        Sentence.due("the card with 1 degree", Check.card(gym, 0), "0:1cm 1@0*");
        gym.pass(5);
        Sentence.due("startOf(0) before its last swing", Check.outcome(() -> gym.startOf(0)), "0");
        gym.pass(1);
        Sentence.due("amplitudeOf(0)", gym.amplitudeOf(0), 0);
        Sentence.due("startOf(0)", Check.outcome(() -> gym.startOf(0)), "throws NoSuchElementException");
        Sentence.due("catchPendulum(0)", Check.outcome(() -> gym.catchPendulum(0)), "throws IllegalStateException");
        Sentence.due("the card at rest", Check.card(gym, 0), "0:1cm rest*");
    }

    // Lengths whose 36-fold is a square, is one less than a square, or lies beside such a one.
    private static final int[] LENGTHS = {1, 2, 4, 8, 9, 10, 16, 24, 25, 34, 36, 38, 48, 49, 50, 64, 78, 81, 84, 98, 99};
    private static final int[] PERIODS =
        {6, 8, 12, 16, 18, 18, 24, 29, 30, 34, 36, 36, 41, 42, 42, 48, 52, 54, 54, 59, 59};

    private static void periodsBesideSquares() {
        for (int index = 0; index < LENGTHS.length; index++) {
            PendulumGym gym = Check.gymWith(LENGTHS[index]);
            Sentence.due("periodOf of length " + LENGTHS[index], gym.periodOf(0), PERIODS[index]);
        }
    }

    private static void estimatesBesideSquares() {
        for (int index = 0; index < LENGTHS.length; index++) {
            PendulumGym gym = Check.gymWith(LENGTHS[index]);
            Sentence.due("periodByEstimates of length " + LENGTHS[index], gym.periodByEstimates(0), PERIODS[index]);
        }
    }

    private static void classesBesideTheirEdges() {
        int[] lengths = {1, 29, 30, 59, 60, 99};
        int[] kinds = {PendulumGym.SHORT, PendulumGym.SHORT, PendulumGym.MIDDLE, PendulumGym.MIDDLE, PendulumGym.LONG,
            PendulumGym.LONG};
        for (int index = 0; index < lengths.length; index++) {
            PendulumGym gym = Check.gymWith(lengths[index]);
            gym.push(0, 7);
            Sentence.due("classOf of length " + lengths[index], gym.classOf(0), kinds[index]);
            for (int kind = 0; kind < 3; kind++) {
                int asked = kind;
                Sentence.due("recordOf(" + kind + ") of length " + lengths[index],
                    Check.outcome(() -> gym.recordOf(asked)), kind == kinds[index] ? "7" : "throws NoSuchElementException");
            }
        }
    }

    private static void constants() {
        Sentence.due("SHORT", PendulumGym.SHORT, 0);
        Sentence.due("MIDDLE", PendulumGym.MIDDLE, 1);
        Sentence.due("LONG", PendulumGym.LONG, 2);
    }

    private static void recordsAndTies() {
        PendulumGym gym = Check.gymWith(1, 29, 29);
        gym.push(1, 30);
        gym.push(0, 29);
        Sentence.due("holderOf with one less", gym.holderOf(PendulumGym.SHORT), 1);
        gym.push(0, 1);
        Sentence.due("holderOf with as much", gym.holderOf(PendulumGym.SHORT), 1);
        Sentence.due("recordOf with as much", gym.recordOf(PendulumGym.SHORT), 30);
        gym.push(2, 31);
        Sentence.due("holderOf with one more", gym.holderOf(PendulumGym.SHORT), 2);
        Sentence.due("recordOf with one more", gym.recordOf(PendulumGym.SHORT), 31);
        gym.catchPendulum(2);
        gym.push(1, 1);
        Sentence.due("holderOf when the holder was caught", gym.holderOf(PendulumGym.SHORT), 2);
        gym.push(2, 5);
        Sentence.due("recordOf when the holder has less", gym.recordOf(PendulumGym.SHORT), 31);
        gym.push(2, 55);
        Sentence.due("recordOf at its end", gym.recordOf(PendulumGym.SHORT), 60);
        gym.push(1, 29);
        Sentence.due("holderOf at its end", gym.holderOf(PendulumGym.SHORT), 2);
    }

    private static void clockFromZero() {
        PendulumGym gym = new PendulumGym();
        Sentence.due("clock() at first", gym.clock(), 0);
        gym.addPendulum(1);
        gym.push(0, 60);
        gym.setFriction(1);
        Sentence.due("clock() behind other calls", gym.clock(), 0);
        gym.pass(1);
        Sentence.due("clock() after a tick", gym.clock(), 1);
        gym.pass(500);
        Sentence.due("clock() after 500 more", gym.clock(), 501);
    }

    private static void ticksAroundASwing() {
        PendulumGym gym = Check.gymWith(1, 4, 1);
        gym.pass(6);
        gym.push(0, 60);
        gym.push(1, 60);
        Sentence.due("pass(5), before the first swing", gym.pass(5), 0);
        Sentence.due("pass(1), the first swing", gym.pass(1), 1);
        Sentence.due("pass(5), before both swing", gym.pass(5), 0);
        Sentence.due("pass(1), both swing", gym.pass(1), 2);
        gym.push(2, 1);
        Sentence.due("pass(6), all but the second", gym.pass(6), 2);
        Sentence.due("pass(6), the third is at rest", gym.pass(6), 2);
        Sentence.due("swingsOf(2)", gym.swingsOf(2), 1);
        Sentence.due("clock()", gym.clock(), 30);
    }

    private static void losses() {
        // The amplitude, the friction, and what is left after a swing.
        int[][] rows = {{1, 0, 0}, {1, 30, 0}, {60, 0, 59}, {60, 1, 59}, {60, 30, 42}, {19, 5, 18}, {20, 5, 19},
            {39, 5, 38}, {40, 5, 38}, {41, 5, 39}, {59, 5, 57}, {60, 5, 57}, {3, 30, 2}, {6, 30, 5}, {7, 30, 5},
            {50, 2, 49}, {50, 4, 48}, {49, 4, 48}, {10, 20, 8}, {9, 20, 8},
            {33, 6, 32}, {33, 9, 31}, {34, 9, 31}};
        for (int[] row : rows) {
            PendulumGym gym = Check.gymWith(1);
            gym.setFriction(row[1]);
            gym.push(0, row[0]);
            gym.pass(6);
            Sentence.due(row[0] + " degrees with friction " + row[1], gym.amplitudeOf(0), row[2]);
        }
    }

    private static void firstFriction() {
        PendulumGym gym = new PendulumGym();
        Sentence.due("friction() at first", gym.friction(), 5);
        gym.setFriction(0);
        Sentence.due("the least friction", gym.friction(), 0);
        gym.setFriction(30);
        Sentence.due("the greatest friction", gym.friction(), 30);
    }

    private static void startOfEachRest() {
        PendulumGym gym = Check.gymWith(1);
        gym.push(0, 1);
        Sentence.due("startOf(0) in tick 0", gym.startOf(0), 0);
        gym.pass(6);
        gym.push(0, 1);
        Sentence.due("startOf(0) in the tick in which it came to rest", gym.startOf(0), 6);
        gym.pass(2);
        gym.catchPendulum(0);
        gym.push(0, 1);
        Sentence.due("startOf(0) in the tick in which it was caught", gym.startOf(0), 8);
        Sentence.due("pass(5), counted from the new start", gym.pass(5), 0);
        Sentence.due("pass(1), counted from the new start", gym.pass(1), 1);
    }

    private static void startIsKept() {
        PendulumGym gym = Check.gymWith(1);
        gym.pass(3);
        gym.push(0, 1);
        gym.pass(5);
        gym.push(0, 1);
        Sentence.due("startOf(0) pushed with 1 degree left", gym.startOf(0), 3);
        Sentence.due("pass(1), counted from the old start", gym.pass(1), 1);
        gym.push(0, 59);
        Sentence.due("startOf(0) pushed to the end", gym.startOf(0), 3);
    }

    private static void newObject() {
        PendulumGym gym = new PendulumGym();
        Sentence.due("pendulumCount()", gym.pendulumCount(), 0);
        Sentence.due("legCount()", gym.legCount(), 0);
        Sentence.due("clock()", gym.clock(), 0);
        Sentence.due("meetingPairs()", gym.meetingPairs(), 0);
        Sentence.due("leastRelay()", gym.leastRelay(), 0);
        Sentence.due("exactSets(0)", gym.exactSets(0), 1);
        PendulumGym other = new PendulumGym();
        Gyms.full();
        for (Questions questions : Questions.values()) {
            Sentence.due("a new object beside others", questions.ask(new PendulumGym()), questions.ask(other));
            other = new PendulumGym();
        }
    }

    private static void addedAtRest() {
        PendulumGym gym = Gyms.ready();
        int number = gym.addPendulum(1);
        Sentence.due("its number", number, 4);
        Sentence.due("its amplitude", gym.amplitudeOf(number), 0);
        Sentence.due("its swings", gym.swingsOf(number), 0);
        Sentence.due("its start", Check.outcome(() -> gym.startOf(number)), "throws NoSuchElementException");
        Sentence.due("its swings to rest", gym.swingsToRest(number), 0);
    }

    private static void lengthsOnTheEdge() {
        for (int length : new int[] {1, 2, 98, 99}) {
            PendulumGym gym = Gyms.ready();
            Sentence.due("addPendulum(" + length + ")", gym.addPendulum(length), 4);
            Sentence.due("lengthOf(4)", gym.lengthOf(4), length);
        }
    }

    private static void lengthsOutside() {
        for (Supplier<PendulumGym> gyms : GYMS) {
            Sentence.refusedOutside("addPendulum", 1, 99, gyms, PendulumGym::addPendulum);
        }
    }

    private static void ninthPendulum() {
        for (int length : new int[] {1, 50, 99}) {
            Sentence.refused("addPendulum(" + length + ") of eight", Sentence.STATE, Gyms::full,
                gym -> gym.addPendulum(length));
        }
        PendulumGym gym = Check.gymWith(1, 1, 1, 1, 1, 1, 1);
        Sentence.due("addPendulum(1) of seven", gym.addPendulum(1), 7);
    }

    private static void degreesOnTheEdge() {
        for (int degrees : new int[] {1, 2, 59, 60}) {
            PendulumGym gym = Gyms.ready();
            Sentence.due("push(2, " + degrees + ")", gym.push(2, degrees), degrees);
            Sentence.due("amplitudeOf(2)", gym.amplitudeOf(2), degrees);
        }
    }

    private static void degreesOutside() {
        for (int number : new int[] {0, 2, 3}) {
            Sentence.refusedOutside("push " + number, 1, 60, Gyms::busy, (gym, degrees) -> gym.push(number, degrees));
        }
        Sentence.refusedOutside("push 0", 1, 60, Gyms::quiet, (gym, degrees) -> gym.push(0, degrees));
    }

    private static void pushedTooFar() {
        Sentence.refused("push(0, 25) to 61", Sentence.STATE, Gyms::busy, gym -> gym.push(0, 25));
        Sentence.refused("push(0, 60) to 96", Sentence.STATE, Gyms::busy, gym -> gym.push(0, 60));
        Sentence.refused("push(3, 1) to 61", Sentence.STATE, Gyms::busy, gym -> gym.push(3, 1));
        Sentence.refused("push(3, 60) to 120", Sentence.STATE, Gyms::busy, gym -> gym.push(3, 60));
        Sentence.refused("push(0, 41) to 61", Sentence.STATE, Gyms::quiet, gym -> gym.push(0, 41));
        Sentence.due("push(0, 24) to 60", Gyms.busy().push(0, 24), 60);
        Sentence.due("push(0, 40) to 60", Gyms.quiet().push(0, 40), 60);
    }

    private static void caughtIsAtRest() {
        PendulumGym gym = Check.gymWith(1, 1);
        gym.push(0, 1);
        gym.push(1, 60);
        Sentence.due("catchPendulum(0) with the least amplitude", gym.catchPendulum(0), 1);
        Sentence.due("catchPendulum(1) with the greatest amplitude", gym.catchPendulum(1), 60);
        for (int number = 0; number < 2; number++) {
            int asked = number;
            Sentence.due("amplitudeOf(" + number + ")", gym.amplitudeOf(number), 0);
            Sentence.due("startOf", Check.outcome(() -> gym.startOf(asked)), "throws NoSuchElementException");
        }
        Sentence.due("pass(6) of caught ones", gym.pass(6), 0);
    }

    private static void catchAtRest() {
        Sentence.refused("catchPendulum(2), never pushed", Sentence.STATE, Gyms::busy, gym -> gym.catchPendulum(2));
        Sentence.refused("catchPendulum(0), caught", Sentence.STATE, PendulumBoundaries::caught,
            gym -> gym.catchPendulum(0));
        Sentence.refused("catchPendulum(0), come to rest", Sentence.STATE, PendulumBoundaries::restedByItself,
            gym -> gym.catchPendulum(0));
        PendulumGym gym = Check.gymWith(1);
        gym.push(0, 1);
        Sentence.due("catchPendulum(0) with 1 degree", gym.catchPendulum(0), 1);
    }

    private static PendulumGym caught() {
        PendulumGym gym = Gyms.busy();
        gym.catchPendulum(0);
        return gym;
    }

    private static PendulumGym restedByItself() {
        PendulumGym gym = Check.gymWith(1);
        gym.push(0, 1);
        gym.pass(6);
        return gym;
    }

    private static void frictionsOnTheEdge() {
        PendulumGym gym = new PendulumGym();
        int previous = 5;
        for (int friction : new int[] {0, 1, 29, 30, 30, 0}) {
            Sentence.due("setFriction(" + friction + ")", gym.setFriction(friction), previous);
            Sentence.due("friction()", gym.friction(), friction);
            previous = friction;
        }
    }

    private static void frictionsOutside() {
        for (Supplier<PendulumGym> gyms : GYMS) {
            Sentence.refusedOutside("setFriction", 0, 30, gyms, PendulumGym::setFriction);
        }
    }

    private static void ticksOnTheEdge() {
        PendulumGym gym = new PendulumGym();
        int clock = 0;
        for (int ticks : new int[] {1, 2, 499, 500}) {
            Sentence.due("pass(" + ticks + ") without pendulums", gym.pass(ticks), 0);
            clock += ticks;
            Sentence.due("clock()", gym.clock(), clock);
        }
    }

    private static void swingsOnTheEdge() {
        PendulumGym gym = Check.gymWith(1, 1, 1, 1, 1, 1, 1, 1);
        Sentence.due("pass(500) at rest", gym.pass(500), 0);
        for (int number = 0; number < 8; number++) {
            gym.push(number, 60);
        }
        gym.setFriction(0);
        Sentence.due("pass(5), just before the first swings", gym.pass(5), 0);
        Sentence.due("pass(1), just the first swings", gym.pass(1), 8);
        Sentence.due("pass(347), up to the last but one", gym.pass(347), 8 * 57);
        Sentence.due("pass(500), the last two", gym.pass(500), 8 * 2);
        Sentence.due("pass(500) at rest again", gym.pass(500), 0);
    }

    private static void ticksOutside() {
        for (Supplier<PendulumGym> gyms : GYMS) {
            Sentence.refusedOutside("pass", 1, 500, gyms, PendulumGym::pass);
        }
    }

    private static void countOfPendulums() {
        PendulumGym gym = new PendulumGym();
        for (int count = 0; count < 8; count++) {
            Sentence.due("pendulumCount()", gym.pendulumCount(), count);
            gym.addPendulum(1);
        }
        Sentence.due("pendulumCount() of all", gym.pendulumCount(), 8);
    }

    private static void amplitudesOnTheEdge() {
        PendulumGym gym = Check.gymWith(1);
        Sentence.due("amplitudeOf(0) never pushed", gym.amplitudeOf(0), 0);
        gym.push(0, 1);
        Sentence.due("amplitudeOf(0) of the least", gym.amplitudeOf(0), 1);
        gym.pass(5);
        Sentence.due("amplitudeOf(0) before its swing", gym.amplitudeOf(0), 1);
        gym.pass(1);
        Sentence.due("amplitudeOf(0) come to rest", gym.amplitudeOf(0), 0);
        gym.push(0, 60);
        Sentence.due("amplitudeOf(0) of the greatest", gym.amplitudeOf(0), 60);
        gym.catchPendulum(0);
        Sentence.due("amplitudeOf(0) caught", gym.amplitudeOf(0), 0);
    }

    private static void noStartAtRest() {
        Sentence.refused("startOf(2), never pushed", Sentence.MISSING, Gyms::busy, gym -> gym.startOf(2));
        Sentence.refused("startOf(0), caught", Sentence.MISSING, PendulumBoundaries::caught, gym -> gym.startOf(0));
        Sentence.refused("startOf(0), come to rest", Sentence.MISSING, PendulumBoundaries::restedByItself,
            gym -> gym.startOf(0));
        Sentence.due("startOf(3), just pushed", Gyms.busy().startOf(3), 14);
        Sentence.due("startOf(0), since long", Gyms.busy().startOf(0), 2);
    }

    private static void swingsBesideTheirTicks() {
        PendulumGym gym = Check.gymWith(1, 99);
        Sentence.due("swingsOf(0) never pushed", gym.swingsOf(0), 0);
        gym.push(0, 2);
        gym.push(1, 60);
        Sentence.due("swingsOf(0) in its starting tick", gym.swingsOf(0), 0);
        gym.pass(5);
        Sentence.due("swingsOf(0) a tick before", gym.swingsOf(0), 0);
        gym.pass(1);
        Sentence.due("swingsOf(0) in the tick", gym.swingsOf(0), 1);
        gym.pass(52);
        Sentence.due("swingsOf(0) at rest", gym.swingsOf(0), 2);
        Sentence.due("swingsOf(1) a tick before", gym.swingsOf(1), 0);
        gym.pass(1);
        Sentence.due("swingsOf(1) in the tick", gym.swingsOf(1), 1);
        gym.push(0, 60);
        Sentence.due("swingsOf(0) pushed anew", gym.swingsOf(0), 2);
    }

    private static void noRecordYet() {
        Sentence.refused("recordOf(MIDDLE)", Sentence.MISSING, Gyms::busy, gym -> gym.recordOf(PendulumGym.MIDDLE));
        for (int kind = 0; kind < 3; kind++) {
            int asked = kind;
            Sentence.refused("recordOf(" + kind + ") of none", Sentence.MISSING, PendulumGym::new,
                gym -> gym.recordOf(asked));
        }
        Sentence.due("recordOf(SHORT)", Gyms.busy().recordOf(PendulumGym.SHORT), 40);
        Sentence.due("recordOf(LONG)", Gyms.busy().recordOf(PendulumGym.LONG), 60);
        PendulumGym gym = Gyms.ready();
        gym.push(2, 1);
        Sentence.due("recordOf(MIDDLE) of the least push", gym.recordOf(PendulumGym.MIDDLE), 1);
        gym.undo();
        Sentence.due("recordOf(MIDDLE) undone", Check.outcome(() -> gym.recordOf(PendulumGym.MIDDLE)),
            "throws NoSuchElementException");
    }

    private static void noHolderYet() {
        Sentence.refused("holderOf(MIDDLE)", Sentence.MISSING, Gyms::busy, gym -> gym.holderOf(PendulumGym.MIDDLE));
        for (int kind = 0; kind < 3; kind++) {
            int asked = kind;
            Sentence.refused("holderOf(" + kind + ") of none", Sentence.MISSING, PendulumGym::new,
                gym -> gym.holderOf(asked));
        }
        Sentence.due("holderOf(SHORT)", Gyms.busy().holderOf(PendulumGym.SHORT), 0);
        Sentence.due("holderOf(LONG)", Gyms.busy().holderOf(PendulumGym.LONG), 3);
        PendulumGym gym = Gyms.ready();
        gym.push(2, 1);
        Sentence.due("holderOf(MIDDLE) of the least push", gym.holderOf(PendulumGym.MIDDLE), 2);
        gym.undo();
        Sentence.due("holderOf(MIDDLE) undone", Check.outcome(() -> gym.holderOf(PendulumGym.MIDDLE)),
            "throws NoSuchElementException");
    }

    private static void ranksOfEquals() {
        // Swings 0, 2, 1, 2 and 0 with amplitudes 0, 0, 0, 0 and 0.
        PendulumGym gym = Check.gymWith(1, 1, 1, 1, 1);
        gym.push(1, 2);
        gym.push(3, 2);
        gym.push(2, 1);
        gym.pass(12);
        ranks(gym, 1, 3, 2, 0, 4);
        gym.push(4, 1);
        ranks(gym, 4, 1, 3, 2, 0);
        gym.push(0, 1);
        ranks(gym, 0, 4, 1, 3, 2);
        gym.push(2, 1);
        ranks(gym, 2, 0, 4, 1, 3);
        gym.push(4, 1);
        ranks(gym, 4, 2, 0, 1, 3);
    }

    private static void ranks(PendulumGym gym, int... order) {
        for (int rank = 0; rank < order.length; rank++) {
            Sentence.due("pendulumAtRank(" + rank + ")", gym.pendulumAtRank(rank), order[rank]);
        }
    }

    private static void ranksOnTheEdge() {
        Sentence.due("pendulumAtRank(0)", Gyms.busy().pendulumAtRank(0), 3);
        Sentence.due("pendulumAtRank(3), the last one", Gyms.busy().pendulumAtRank(3), 2);
        Sentence.due("pendulumAtRank(0) of one", Gyms.quiet().pendulumAtRank(0), 0);
        Sentence.due("pendulumAtRank(7) of eight", Gyms.full().pendulumAtRank(7), 6);
    }

    private static void noSuchRank() {
        for (int rank : new int[] {4, 7, 8, -1, Integer.MIN_VALUE, Integer.MAX_VALUE}) {
            Sentence.refused("pendulumAtRank(" + rank + ") of four", Sentence.MISSING, Gyms::busy,
                gym -> gym.pendulumAtRank(rank));
        }
        Sentence.refused("pendulumAtRank(8) of eight", Sentence.MISSING, Gyms::full, gym -> gym.pendulumAtRank(8));
        Sentence.refused("pendulumAtRank(0) of none", Sentence.MISSING, PendulumGym::new, gym -> gym.pendulumAtRank(0));
    }
}
