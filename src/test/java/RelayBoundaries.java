import java.util.List;
import java.util.function.BiFunction;
import java.util.function.Function;
import java.util.function.Supplier;

/** The boundaries of promises 28 to 38, and of the terms about relays and quotas. */
final class RelayBoundaries {
    private static final String NO_LEG = "Throws `IndexOutOfBoundsException` if there is no such leg";
    private static final String TOO_FEW = "Throws `IllegalStateException` if there are fewer pendulums than legs";
    private static final String BAD_SWINGS =
        "Throws `IllegalArgumentException` if the number of swings is out of range";
    private static final String TOO_MANY =
        "Throws `NoSuchElementException` if all pendulums together cannot do so many";
    private static final int[] RELAYS = {1, 2, 3, 4, 5, 6};

    private RelayBoundaries() {
    }

    static void all() {
        terms();
        legs();
        relays();
        quotas();
        mean();
    }

    private static void terms() {
        Sentence.holds(Sentence.TERMS, "At most 6 legs exist, numbered from 0; each has a wished period from 1 to 60.",
            RelayBoundaries::sixLegs);
        Sentence.holds(Sentence.TERMS, "When a leg is removed, the numbers of the legs after it decrease by 1.",
            RelayBoundaries::removedLegs);
        Sentence.holds(Sentence.TERMS, "A relay gives each leg a pendulum of its own, at rest or not.",
            RelayBoundaries::pendulumsOfTheirOwn);
        Sentence.holds(Sentence.TERMS, "The cost of a relay is the sum of the differences between the periods of the "
            + "pendulums and the wished periods of their legs.", RelayBoundaries::costsOnBothSides);
        Sentence.holds(Sentence.TERMS, "A week has 168 ticks.", RelayBoundaries::weekThatJustFits);
        Sentence.holds(Sentence.TERMS, "A pendulum can do as many swings in a week as its period fits into 168 ticks.",
            RelayBoundaries::periodsBesideFits);
        Sentence.holds(Sentence.TERMS, "The least common multiple of cycleOf and the swings in a week do not depend on "
            + "whether pendulums are at rest.", RelayBoundaries::restPlaysNoPart);
    }

    private static void legs() {
        Sentence.holds(28, "the wished period, 1 to 60", RelayBoundaries::wishesOnTheEdge);
        Sentence.holds(28, "Throws `IllegalArgumentException` if the period is out of range",
            RelayBoundaries::wishesOutside);
        Sentence.holds(28, "Throws `IllegalStateException` if there are 6 legs", RelayBoundaries::seventhLeg);
        Sentence.holds(29, NO_LEG, () -> noSuchLeg("removeLeg", PendulumGym::removeLeg));
        Sentence.holds(29, "Returns its wished period.", RelayBoundaries::removedWishes);
        Sentence.holds(30, "Returns the number of legs.", RelayBoundaries::countOfLegs);
        Sentence.holds(31, NO_LEG, () -> noSuchLeg("wishOf", PendulumGym::wishOf));
    }

    private static void relays() {
        Sentence.holds(32, "Returns the least cost of a relay, leg by leg from the least costs for all sets of "
            + "pendulums.", () -> leastCosts(PendulumGym::leastRelay));
        Sentence.holds(32, "Returns the cost, 0 without legs.", () -> withoutLegs(PendulumGym::leastRelay));
        Sentence.holds(32, TOO_FEW, () -> tooFew("leastRelay()", PendulumGym::leastRelay));
        Sentence.holds(33, "Returns the same cost as leastRelay, by trying relays leg by leg, and giving up those that "
            + "already cost as much as the best one.", () -> leastCosts(PendulumGym::leastRelayByTrying));
        Sentence.holds(33, "Returns the cost, 0 without legs.", () -> withoutLegs(PendulumGym::leastRelayByTrying));
        Sentence.holds(33, TOO_FEW, () -> tooFew("leastRelayByTrying()", PendulumGym::leastRelayByTrying));
        Sentence.holds(34, "Returns the pendulum of a leg in the first relay with the least cost: of two relays, the "
            + "one in which the first leg that has different pendulums in them has the lower number comes first.",
            RelayBoundaries::firstOfEqualRelays);
        Sentence.holds(34, NO_LEG, () -> noSuchLeg("runnerOf", PendulumGym::runnerOf));
        Sentence.holds(34, TOO_FEW, () -> tooFew("runnerOf(0)", gym -> gym.runnerOf(0)));
    }

    private static void quotas() {
        Sentence.holds(35, "Returns the least number of pendulums that can do a number of swings together in a week, "
            + "by taking the ones with the most swings first.", () -> fewestBesideSums(PendulumGym::fewestFor));
        Sentence.holds(35, "the number of swings, 1 to 999", () -> swingsOnTheEdge(PendulumGym::fewestFor));
        Sentence.holds(35, BAD_SWINGS, () -> swingsOutside("fewestFor", 1, PendulumGym::fewestFor));
        Sentence.holds(35, TOO_MANY, () -> tooManySwings("fewestFor", PendulumGym::fewestFor));
        Sentence.holds(36, "Returns the same number as fewestFor, by looking at all sets of pendulums.",
            () -> fewestBesideSums(PendulumGym::fewestForBySets));
        Sentence.holds(36, "the number of swings, 1 to 999", () -> swingsOnTheEdge(PendulumGym::fewestForBySets));
        Sentence.holds(36, BAD_SWINGS, () -> swingsOutside("fewestForBySets", 1, PendulumGym::fewestForBySets));
        Sentence.holds(36, TOO_MANY, () -> tooManySwings("fewestForBySets", PendulumGym::fewestForBySets));
        Sentence.holds(37, "the number of swings, 0 to 999", RelayBoundaries::exactOnTheEdge);
        Sentence.holds(37, "Returns the number of sets, the empty one included.", RelayBoundaries::emptySet);
        Sentence.holds(37, BAD_SWINGS, () -> swingsOutside("exactSets", 0, PendulumGym::exactSets));
    }

    private static void mean() {
        Sentence.holds(38, "Returns the mean amplitude of the pendulums that are not at rest.",
            RelayBoundaries::meanWithoutTheResting);
        Sentence.holds(38, "Returns the sum of their amplitudes divided by their number, both converted to double.",
            RelayBoundaries::meanInDoubles);
        Sentence.holds(38, "Throws `ArithmeticException` if all pendulums are at rest", RelayBoundaries::noMeanAtRest);
    }

    private static void sixLegs() {
        PendulumGym gym = new PendulumGym();
        int[] wishes = {60, 1, 59, 2, 30, 30};
        for (int leg = 0; leg < 6; leg++) {
            gym.addLeg(wishes[leg]);
        }
        Sentence.due("a seventh", Check.outcome(() -> gym.addLeg(30)), "throws IllegalStateException");
        for (int leg = 0; leg < 6; leg++) {
            Sentence.due("wishOf(" + leg + ")", gym.wishOf(leg), wishes[leg]);
        }
        Sentence.due("wishOf(6)", Check.outcome(() -> gym.wishOf(6)), "throws IndexOutOfBoundsException");
        gym.removeLeg(5);
        Sentence.due("a sixth anew", gym.addLeg(7), 6);
        Sentence.due("wishOf(5) anew", gym.wishOf(5), 7);
    }

    private static void removedLegs() {
        for (int removed = 0; removed < 6; removed++) {
            PendulumGym gym = Check.withLegs(new PendulumGym(), 10, 11, 12, 13, 14, 15);
            Sentence.due("removeLeg(" + removed + ")", gym.removeLeg(removed), 10 + removed);
            Sentence.due("legCount()", gym.legCount(), 5);
            for (int leg = 0; leg < 5; leg++) {
                Sentence.due("wishOf(" + leg + ") without " + removed, gym.wishOf(leg), leg < removed ? 10 + leg : 11 + leg);
            }
            Sentence.due("wishOf(5)", Check.outcome(() -> gym.wishOf(5)), "throws IndexOutOfBoundsException");
        }
    }

    private static void pendulumsOfTheirOwn() {
        // One fits both legs, but a pendulum runs one leg alone.
        PendulumGym gym = Check.withLegs(Check.gymWith(1, 25), 30, 30);
        Sentence.due("leastRelay()", gym.leastRelay(), 24);
        Sentence.due("leastRelayByTrying()", gym.leastRelayByTrying(), 24);
        Sentence.due("runnerOf(0)", gym.runnerOf(0), 0);
        Sentence.due("runnerOf(1)", gym.runnerOf(1), 1);
        gym.push(0, 60);
        Sentence.due("leastRelay() of one at rest and one not", gym.leastRelay(), 24);
        gym.push(1, 1);
        Sentence.due("leastRelayByTrying() of none at rest", gym.leastRelayByTrying(), 24);
        Sentence.due("runnerOf(1) of none at rest", gym.runnerOf(1), 1);
    }

    private static void costsOnBothSides() {
        PendulumGym gym = Check.withLegs(Check.gymWith(25), 29);
        Sentence.due("a wish below the period", gym.leastRelay(), 1);
        Sentence.due("a wish below the period, by trying", gym.leastRelayByTrying(), 1);
        gym.removeLeg(0);
        gym.addLeg(30);
        Sentence.due("a wish that fits", gym.leastRelay(), 0);
        Sentence.due("a wish that fits, by trying", gym.leastRelayByTrying(), 0);
        gym.removeLeg(0);
        gym.addLeg(31);
        Sentence.due("a wish above the period", gym.leastRelay(), 1);
        Sentence.due("a wish above the period, by trying", gym.leastRelayByTrying(), 1);
        // Too much and too little are added up, they don't make up for each other.
        PendulumGym both = Check.withLegs(Check.gymWith(25, 25), 20, 40);
        Sentence.due("both at once", both.leastRelay(), 20);
        Sentence.due("both at once, by trying", both.leastRelayByTrying(), 20);
    }

    private static void weekThatJustFits() {
        PendulumGym gym = Check.gymWith(1);
        Sentence.due("fewestFor(28) of period 6", gym.fewestFor(28), 1);
        Sentence.due("fewestFor(29)", Check.outcome(() -> gym.fewestFor(29)), "throws NoSuchElementException");
        Sentence.due("exactSets(28)", gym.exactSets(28), 1);
    }

    private static void periodsBesideFits() {
        // The periods 6, 12, 13, 24, 42, 56 (length 88), 57 (length 91) and 59.
        int[] lengths = {1, 4, 5, 16, 49, 88, 91, 99};
        int[] swings = {28, 14, 12, 7, 4, 3, 2, 2};
        for (int index = 0; index < lengths.length; index++) {
            PendulumGym gym = Check.gymWith(lengths[index]);
            int most = swings[index];
            String of = " of length " + lengths[index];
            Sentence.due("exactSets(" + most + ")" + of, gym.exactSets(most), 1);
            Sentence.due("exactSets(" + (most + 1) + ")" + of, gym.exactSets(most + 1), 0);
            Sentence.due("exactSets(" + (most - 1) + ")" + of, gym.exactSets(most - 1), 0);
            Sentence.due("fewestFor(" + most + ")" + of, gym.fewestFor(most), 1);
            Sentence.due("fewestForBySets(" + most + ")" + of, gym.fewestForBySets(most), 1);
        }
    }

    private static void restPlaysNoPart() {
        PendulumGym gym = Check.gymWith(1, 4);
        for (int round = 0; round < 3; round++) {
            Sentence.due("cycleOf(0, 1)", gym.cycleOf(0, 1), 12);
            Sentence.due("fewestFor(42)", gym.fewestFor(42), 2);
            Sentence.due("fewestForBySets(42)", gym.fewestForBySets(42), 2);
            Sentence.due("exactSets(28)", gym.exactSets(28), 1);
            if (round < 2) {
                gym.push(round, 60);
            }
        }
    }

    private static void wishesOnTheEdge() {
        PendulumGym gym = new PendulumGym();
        int[] wishes = {1, 2, 59, 60};
        for (int leg = 0; leg < wishes.length; leg++) {
            Sentence.due("addLeg(" + wishes[leg] + ")", gym.addLeg(wishes[leg]), leg + 1);
            Sentence.due("wishOf(" + leg + ")", gym.wishOf(leg), wishes[leg]);
        }
    }

    private static void wishesOutside() {
        for (Supplier<PendulumGym> gyms : List.<Supplier<PendulumGym>>of(Gyms::busy, Gyms::quiet)) {
            Sentence.refusedOutside("addLeg", 1, 60, gyms, PendulumGym::addLeg);
        }
    }

    private static void seventhLeg() {
        for (int wish : new int[] {1, 30, 60}) {
            Sentence.refused("addLeg(" + wish + ") behind six", Sentence.STATE, Gyms::full, gym -> gym.addLeg(wish));
        }
        PendulumGym gym = Check.withLegs(new PendulumGym(), 1, 1, 1, 1, 1);
        Sentence.due("addLeg(1) behind five", gym.addLeg(1), 6);
    }

    private static void noSuchLeg(String name, BiFunction<PendulumGym, Integer, Object> with) {
        for (int leg : new int[] {3, 5, 6, -1, Integer.MIN_VALUE, Integer.MAX_VALUE}) {
            Sentence.refused(name + "(" + leg + ") of three", Sentence.INDEX, Gyms::busy, gym -> with.apply(gym, leg));
        }
        Sentence.refused(name + "(6) of six", Sentence.INDEX, Gyms::full, gym -> with.apply(gym, 6));
        Sentence.refused(name + "(0) of none", Sentence.INDEX, Gyms::quiet, gym -> with.apply(gym, 0));
        Sentence.refused(name + "(0) of an empty one", Sentence.INDEX, PendulumGym::new, gym -> with.apply(gym, 0));
        for (int leg : new int[] {0, 5}) {
            String outcome = Check.outcome(() -> with.apply(Gyms.full(), leg));
            Sentence.due(name + "(" + leg + ") of six is there", outcome.startsWith("throws"), false);
        }
    }

    private static void removedWishes() {
        PendulumGym gym = Check.withLegs(new PendulumGym(), 60, 1);
        Sentence.due("removeLeg(1), the last one", gym.removeLeg(1), 1);
        Sentence.due("removeLeg(0), the only one", gym.removeLeg(0), 60);
        Sentence.due("legCount()", gym.legCount(), 0);
        Sentence.due("removeLeg(0) of none", Check.outcome(() -> gym.removeLeg(0)), "throws IndexOutOfBoundsException");
        Sentence.due("addLeg(9) after all", gym.addLeg(9), 1);
        Sentence.due("wishOf(0)", gym.wishOf(0), 9);
    }

    private static void countOfLegs() {
        PendulumGym gym = new PendulumGym();
        for (int count = 0; count < 6; count++) {
            Sentence.due("legCount()", gym.legCount(), count);
            gym.addLeg(1);
        }
        Sentence.due("legCount() of all", gym.legCount(), 6);
        for (int count = 5; count >= 0; count--) {
            gym.removeLeg(0);
            Sentence.due("legCount()", gym.legCount(), count);
        }
    }

    private static void leastCosts(Function<PendulumGym, Integer> asked) {
        // The pendulum that fits best is needed elsewhere; and a relay whose first leg is dear is the cheapest one.
        Sentence.due("the dear first leg", asked.apply(Check.withLegs(Check.gymWith(25, 36), 31, 10)), 25);
        Sentence.due("one of eight", asked.apply(Check.withLegs(Check.gymWith(1, 1, 1, 1, 1, 1, 1, 99), 60)), 1);
        Sentence.due("the first of eight", asked.apply(Check.withLegs(Check.gymWith(99, 1, 1, 1, 1, 1, 1, 1), 60)), 1);
        Sentence.due("the dearest relay",
            asked.apply(Check.withLegs(Check.gymWith(1, 1, 1, 1, 1, 1), 60, 60, 60, 60, 60, 60)), 324);
        Sentence.due("six of eight, the last ones",
            asked.apply(Check.withLegs(Check.gymWith(99, 99, 1, 4, 9, 16, 25, 36), 36, 30, 24, 18, 12, 6)), 0);
        Sentence.due("legs that all differ",
            asked.apply(Check.withLegs(Check.gymWith(1, 4, 9, 16, 25, 36, 49, 64), 7, 13, 19, 25, 31, 37)), 6);
    }

    private static void withoutLegs(Function<PendulumGym, Integer> asked) {
        Sentence.due("of an empty one", asked.apply(new PendulumGym()), 0);
        Sentence.due("of one pendulum", asked.apply(Gyms.quiet()), 0);
        Sentence.due("of eight pendulums", asked.apply(Check.gymWith(1, 2, 3, 4, 5, 6, 7, 8)), 0);
        PendulumGym gym = Check.withLegs(Check.gymWith(1), 60);
        gym.removeLeg(0);
        Sentence.due("after the only leg", asked.apply(gym), 0);
    }

    private static void tooFew(String name, Function<PendulumGym, Object> asked) {
        for (int legs : RELAYS) {
            Sentence.refused(name + " of one pendulum less than " + legs + " legs", Sentence.STATE,
                () -> relay(legs - 1, legs), asked);
            Sentence.changesNothing(name + " of as many pendulums as " + legs + " legs", () -> relay(legs, legs), asked);
        }
        Sentence.refused(name + " of six legs alone", Sentence.STATE, () -> relay(0, 6), asked);
    }

    private static PendulumGym relay(int pendulums, int legs) {
        PendulumGym gym = new PendulumGym();
        for (int number = 0; number < pendulums; number++) {
            gym.addPendulum(1 + 10 * number);
        }
        for (int leg = 0; leg < legs; leg++) {
            gym.addLeg(60 - leg);
        }
        return gym;
    }

    private static void firstOfEqualRelays() {
        runners(Check.withLegs(Check.gymWith(25, 25, 25), 30, 30, 30), 0, 1, 2);
        runners(Check.withLegs(Check.gymWith(36, 25), 30, 30), 0, 1);
        // 24 and 36 are as far from 30 each.
        runners(Check.withLegs(Check.gymWith(36, 16), 30), 0);
        runners(Check.withLegs(Check.gymWith(16, 36), 30), 0);
        // The lowest number is no help where it makes the relay dearer.
        runners(Check.withLegs(Check.gymWith(36, 25, 16), 31, 10), 1, 2);
        runners(Check.withLegs(Check.gymWith(25, 16, 16), 24, 30), 1, 0);
        runners(Check.withLegs(Check.gymWith(99, 99, 1, 1, 4, 4, 9, 9), 6, 12, 18, 6, 12, 18), 2, 4, 6, 3, 5, 7);
        runners(Check.withLegs(Check.gymWith(1, 1, 1, 1, 1, 1, 1, 1), 6, 60, 6, 60, 6, 60), 0, 1, 2, 3, 4, 5);
    }

    private static void runners(PendulumGym gym, int... want) {
        for (int leg = 0; leg < want.length; leg++) {
            Sentence.due("runnerOf(" + leg + ")", gym.runnerOf(leg), want[leg]);
        }
    }

    private static void fewestBesideSums(BiFunction<PendulumGym, Integer, Integer> asked) {
        // Swings in a week: 3, 4, 28 and 7; the most first make 28, 35, 39 and 42.
        int[] sums = {28, 35, 39, 42};
        PendulumGym gym = Check.gymWith(64, 36, 1, 16);
        for (int index = 0; index < sums.length; index++) {
            Sentence.due("for " + sums[index], asked.apply(gym, sums[index]), index + 1);
            if (index < 3) {
                Sentence.due("for one more", asked.apply(gym, sums[index] + 1), index + 2);
            }
        }
        // The order in which they were added plays no part.
        int[][] orders = {{1, 16, 36, 64}, {16, 1, 64, 36}, {36, 64, 16, 1}};
        for (int[] order : orders) {
            PendulumGym other = Check.gymWith(order);
            for (int index = 0; index < sums.length; index++) {
                Sentence.due("for " + sums[index] + " in another order", asked.apply(other, sums[index]), index + 1);
            }
        }
        PendulumGym equal = Check.gymWith(1, 1, 1, 1, 1, 1, 1, 1);
        for (int number = 1; number <= 8; number++) {
            Sentence.due("for " + 28 * number + " of equals", asked.apply(equal, 28 * number), number);
            Sentence.due("for one less", asked.apply(equal, 28 * number - 1), number);
        }
    }

    private static void swingsOnTheEdge(BiFunction<PendulumGym, Integer, Integer> asked) {
        Sentence.due("for 1", asked.apply(Gyms.busy(), 1), 1);
        Sentence.due("for 2", asked.apply(Check.gymWith(99), 2), 1);
        for (int swings : new int[] {998, 999}) {
            // It is in range, but more than eight pendulums can do.
            Sentence.due("for " + swings, Check.outcome(() -> asked.apply(Gyms.full(), swings)),
                "throws NoSuchElementException");
        }
    }

    private static void swingsOutside(String name, int least, BiFunction<PendulumGym, Integer, Object> asked) {
        Sentence.refusedOutside(name, least, 999, Gyms::busy, asked);
        Sentence.refusedOutside(name + " without pendulums", least, 999, PendulumGym::new, asked);
    }

    private static void tooManySwings(String name, BiFunction<PendulumGym, Integer, Object> asked) {
        // 14 and 5 and 5 and 2 swings can the four do.
        for (int swings : new int[] {27, 28, 999}) {
            Sentence.refused(name + "(" + swings + ")", Sentence.MISSING, Gyms::busy, gym -> asked.apply(gym, swings));
        }
        Sentence.due("all that they can do", asked.apply(Gyms.busy(), 26), 4);
        Sentence.refused(name + "(1) without pendulums", Sentence.MISSING, PendulumGym::new, gym -> asked.apply(gym, 1));
        Sentence.refused(name + "(225) of eight", Sentence.MISSING, () -> Check.gymWith(1, 1, 1, 1, 1, 1, 1, 1),
            gym -> asked.apply(gym, 225));
        Sentence.due("all that eight can do", asked.apply(Check.gymWith(1, 1, 1, 1, 1, 1, 1, 1), 224), 8);
    }

    private static void exactOnTheEdge() {
        PendulumGym gym = Check.gymWith(1, 1, 1, 1, 1, 1, 1, 1);
        Sentence.due("exactSets(0)", gym.exactSets(0), 1);
        Sentence.due("exactSets(1)", gym.exactSets(1), 0);
        Sentence.due("exactSets(28)", gym.exactSets(28), 8);
        Sentence.due("exactSets(112)", gym.exactSets(112), 70);
        Sentence.due("exactSets(224), all of them", gym.exactSets(224), 1);
        Sentence.due("exactSets(225)", gym.exactSets(225), 0);
        Sentence.due("exactSets(998)", gym.exactSets(998), 0);
        Sentence.due("exactSets(999)", gym.exactSets(999), 0);
    }

    private static void emptySet() {
        PendulumGym gym = new PendulumGym();
        Sentence.due("exactSets(0) without pendulums", gym.exactSets(0), 1);
        Sentence.due("exactSets(1) without pendulums", gym.exactSets(1), 0);
        gym.addPendulum(99);
        Sentence.due("exactSets(0) of one", gym.exactSets(0), 1);
        Sentence.due("exactSets(2) of one", gym.exactSets(2), 1);
    }

    private static void meanWithoutTheResting() {
        PendulumGym gym = Check.gymWith(1, 1, 1);
        gym.push(1, 60);
        Sentence.due("of one of three", gym.meanAmplitude(), 60.0);
        gym.push(2, 1);
        Sentence.due("of two of three", gym.meanAmplitude(), 30.5);
        gym.catchPendulum(1);
        Sentence.due("of one that is left", gym.meanAmplitude(), 1.0);
    }

    private static void meanInDoubles() {
        PendulumGym gym = Check.gymWith(1, 1, 1, 1, 1, 1, 1);
        int sum = 0;
        for (int number = 0; number < 7; number++) {
            gym.push(number, 1 + number * number);
            sum += 1 + number * number;
            Sentence.due("of " + (number + 1), gym.meanAmplitude(), (double) sum / (number + 1));
        }
    }

    private static void noMeanAtRest() {
        Class<ArithmeticException> none = ArithmeticException.class;
        Sentence.refused("meanAmplitude() of none", none, PendulumGym::new, PendulumGym::meanAmplitude);
        Sentence.refused("meanAmplitude() of ones never pushed", none, () -> relay(8, 6), PendulumGym::meanAmplitude);
        Supplier<PendulumGym> rested = () -> {
            PendulumGym gym = Gyms.busy();
            gym.setFriction(30);
            for (int round = 0; round < 3; round++) {
                gym.pass(500);
            }
            return gym;
        };
        Sentence.refused("meanAmplitude() of rested ones", none, rested, PendulumGym::meanAmplitude);
        Supplier<PendulumGym> caught = () -> {
            PendulumGym gym = Gyms.quiet();
            gym.catchPendulum(0);
            return gym;
        };
        Sentence.refused("meanAmplitude() of a caught one", none, caught, PendulumGym::meanAmplitude);
    }
}
