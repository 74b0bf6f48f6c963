import java.util.NoSuchElementException;

/** A gymnasium of pendulums: their swings and records, meetings, relays and quotas. Not thread-safe. */
public final class PendulumGym {
    public static final int SHORT = 0, MIDDLE = 1, LONG = 2;

    private static final int CLASSES = 3;
    private static final int MIDDLE_FROM = 30;
    private static final int LONG_FROM = 60;
    private static final int MAX_PENDULUMS = 8;
    private static final int MAX_LENGTH = 99;
    private static final int MAX_AMPLITUDE = 60;
    private static final int MAX_FRICTION = 30;
    private static final int FIRST_FRICTION = 5;
    private static final int MAX_TICKS = 500;
    private static final int MAX_LEGS = 6;
    private static final int MAX_WISH = 60;
    private static final int WEEK = 168;
    private static final int MAX_QUOTA = 999;
    private static final int MAX_TEXT = 60;
    private static final int MAX_DIGITS = 3;
    private static final int MAX_UNDO = 8;

    /** Euclid's steps and an estimate's improvements stay far below this for all numbers here. */
    private static final int MANY_STEPS = 100;
    /** Above the cost of every relay: six legs differ by less than 60 each. */
    private static final int TOO_DEAR = 1_000_000;

    /** What a question answers that has no answer; all true answers are 0 or more. */
    private static final int NONE = -1;

    private static final int ALLOWED = 0;
    private static final int NO_SUCH_INDEX = 1;
    private static final int OUT_OF_RANGE = 2;
    private static final int WRONG_STATE = 3;

    private final State state = new State();
    private final State beforeProgram = new State();
    private final State snapshot = new State();
    private final History history = new History();
    private final Forecast forecast = new Forecast();
    private final Relay relay = new Relay();
    private final Program program = new Program();
    private final StringBuilder card = new StringBuilder();
    private boolean hasSnapshot = false;
    private int lastErrorAt = NONE;
    private int lastFailure = NONE;

    public PendulumGym() {
    }

    // ---- pendulums

    public int addPendulum(int length) throws IllegalArgumentException, IllegalStateException {
        throwIfRefused(state.refusalToHang(length));
        history.keep(state);
        return state.hang(length);
    }

    public int push(int pendulum, int degrees)
            throws IndexOutOfBoundsException, IllegalArgumentException, IllegalStateException {
        throwIfRefused(state.refusalToSwingUp(pendulum, degrees));
        history.keep(state);
        return state.swingUp(pendulum, degrees);
    }

    public int catchPendulum(int pendulum) throws IndexOutOfBoundsException, IllegalStateException {
        throwIfRefused(state.refusalToStop(pendulum));
        history.keep(state);
        return state.stop(pendulum);
    }

    public int setFriction(int friction) throws IllegalArgumentException {
        throwIfRefused(state.refusalOfFriction(friction));
        history.keep(state);
        return state.changeFriction(friction);
    }

    public int pass(int ticks) throws IllegalArgumentException {
        throwIfRefused(state.refusalToWait(ticks));
        history.keep(state);
        return state.waitFor(ticks);
    }

    public int pendulumCount() {
        return state.pendulums;
    }

    public int lengthOf(int pendulum) throws IndexOutOfBoundsException {
        requirePendulum(pendulum);
        return state.lengthAt(pendulum);
    }

    public int classOf(int pendulum) throws IndexOutOfBoundsException {
        requirePendulum(pendulum);
        return state.kindOf(pendulum);
    }

    public int amplitudeOf(int pendulum) throws IndexOutOfBoundsException {
        requirePendulum(pendulum);
        return state.amplitudeAt(pendulum);
    }

    public int startOf(int pendulum) throws IndexOutOfBoundsException, NoSuchElementException {
        requirePendulum(pendulum);
        requireSwinging(pendulum);
        return state.startAt(pendulum);
    }

    public int periodOf(int pendulum) throws IndexOutOfBoundsException {
        requirePendulum(pendulum);
        return state.periodAt(pendulum);
    }

    public int periodByEstimates(int pendulum) throws IndexOutOfBoundsException {
        requirePendulum(pendulum);
        return Numbers.rootByEstimates(State.squareOfPeriod(state.lengthAt(pendulum)));
    }

    public int swingsOf(int pendulum) throws IndexOutOfBoundsException {
        requirePendulum(pendulum);
        return state.swingsAt(pendulum);
    }

    public int clock() {
        return state.now;
    }

    public int friction() {
        return state.friction;
    }

    public int recordOf(int kind) throws IllegalArgumentException, NoSuchElementException {
        requireRecord(kind);
        return state.recordAt(kind);
    }

    public int holderOf(int kind) throws IllegalArgumentException, NoSuchElementException {
        requireRecord(kind);
        return state.holderAt(kind);
    }

    public int pendulumAtRank(int rank) throws NoSuchElementException {
        int pendulum = state.ranked(rank);
        if (pendulum == NONE) {
            throw new NoSuchElementException("there is no such rank");
        }
        return pendulum;
    }

    // ---- predictions

    public int swingsToRest(int pendulum) throws IndexOutOfBoundsException {
        requirePendulum(pendulum);
        return forecast.swingsOneByOne(state, pendulum);
    }

    public int swingsToRestByTable(int pendulum) throws IndexOutOfBoundsException {
        requirePendulum(pendulum);
        return forecast.swingsFromTable(state, pendulum);
    }

    public int restTick(int pendulum) throws IndexOutOfBoundsException, NoSuchElementException {
        requirePendulum(pendulum);
        requireSwinging(pendulum);
        return forecast.lastTick(state, pendulum);
    }

    public int amplitudeAfter(int pendulum, int ticks) throws IndexOutOfBoundsException, IllegalArgumentException {
        requirePendulum(pendulum);
        if (ticks < 0 || ticks > MAX_TICKS) {
            throw new IllegalArgumentException("ticks go from 0 to 500");
        }
        return forecast.laterAmplitude(state, pendulum, ticks);
    }

    public int meeting(int one, int other)
            throws IndexOutOfBoundsException, IllegalStateException, NoSuchElementException {
        requireBothSwinging(one, other);
        return requireMeeting(Meetings.tickByTick(state, one, other));
    }

    public int meetingByDivisors(int one, int other)
            throws IndexOutOfBoundsException, IllegalStateException, NoSuchElementException {
        requireBothSwinging(one, other);
        return requireMeeting(Meetings.byDivisors(state, one, other));
    }

    public int meetingPairs() {
        return Meetings.pairs(state);
    }

    public int cycleOf(int one, int other) throws IndexOutOfBoundsException {
        requirePendulum(one);
        requirePendulum(other);
        return Numbers.leastMultiple(state.periodAt(one), state.periodAt(other));
    }

    // ---- relays and quotas

    public int addLeg(int period) throws IllegalArgumentException, IllegalStateException {
        throwIfRefused(state.refusalToAppendLeg(period));
        history.keep(state);
        return state.appendLeg(period);
    }

    public int removeLeg(int leg) throws IndexOutOfBoundsException {
        throwIfRefused(state.refusalToDropLeg(leg));
        history.keep(state);
        return state.dropLeg(leg);
    }

    public int legCount() {
        return state.legs;
    }

    public int wishOf(int leg) throws IndexOutOfBoundsException {
        requireLeg(leg);
        return state.wishAt(leg);
    }

    public int leastRelay() throws IllegalStateException {
        requireRelay();
        return relay.leastCost(state);
    }

    public int leastRelayByTrying() throws IllegalStateException {
        requireRelay();
        return bestByTrying(state, 0, 0, 0, TOO_DEAR);
    }

    public int runnerOf(int leg) throws IndexOutOfBoundsException, IllegalStateException {
        requireLeg(leg);
        requireRelay();
        return relay.runner(state, leg);
    }

    public int fewestFor(int swings) throws IllegalArgumentException, NoSuchElementException {
        requireQuota(swings, 1);
        return requireEnough(Quota.fewestGreatestFirst(state, swings));
    }

    public int fewestForBySets(int swings) throws IllegalArgumentException, NoSuchElementException {
        requireQuota(swings, 1);
        return requireEnough(Quota.fewestOfAllSets(state, swings));
    }

    public int exactSets(int swings) throws IllegalArgumentException {
        requireQuota(swings, 0);
        return Quota.setsWithExactly(state, swings);
    }

    public double meanAmplitude() throws ArithmeticException {
        int number = state.swingingCount();
        if (number == 0) {
            throw new ArithmeticException("all pendulums are at rest");
        }
        return (double) state.amplitudeSum() / (double) number;
    }

    // ---- card and programs

    public int writeCard(int pendulum) throws IndexOutOfBoundsException {
        requirePendulum(pendulum);
        card.setLength(0);
        card.append(pendulum);
        card.append(':');
        card.append(state.lengthAt(pendulum));
        card.append("cm ");
        if (state.isSwinging(pendulum)) {
            card.append(state.amplitudeAt(pendulum));
            card.append('@');
            card.append(state.startAt(pendulum));
        } else {
            card.append("rest");
        }
        if (state.holdsRecord(pendulum)) {
            card.append('*');
        }
        return card.length();
    }

    public char cardAt(int index) throws IndexOutOfBoundsException {
        if (index < 0 || index >= card.length()) {
            throw new IndexOutOfBoundsException("the card has no such character");
        }
        return card.charAt(index);
    }

    public int type(char character) throws IllegalArgumentException, IllegalStateException {
        if (character < 32 || character > 126) {
            throw new IllegalArgumentException("the character is not from 32 to 126");
        }
        if (program.isFull()) {
            throw new IllegalStateException("the buffer is full");
        }
        return program.append(character);
    }

    public int execute() throws IllegalArgumentException, IllegalStateException {
        boolean wellFormed = program.read();
        program.empty();
        if (!wellFormed) {
            lastErrorAt = program.position();
            throw new IllegalArgumentException("the program is malformed");
        }
        beforeProgram.copyFrom(state);
        int failure = firstFailure();
        if (failure != NONE) {
            state.copyFrom(beforeProgram);
            lastFailure = failure;
            throw new IllegalStateException("a command failed");
        }
        history.keep(beforeProgram);
        return program.commands();
    }

    public int errorPosition() throws NoSuchElementException {
        if (lastErrorAt == NONE) {
            throw new NoSuchElementException("no program was malformed so far");
        }
        return lastErrorAt;
    }

    public int failedCommand() throws NoSuchElementException {
        if (lastFailure == NONE) {
            throw new NoSuchElementException("no command failed so far");
        }
        return lastFailure;
    }

    // ---- undo and snapshots

    public int undo() throws IllegalStateException {
        if (history.size() == 0) {
            throw new IllegalStateException("there is nothing to undo");
        }
        history.takeBackInto(state);
        return history.size();
    }

    public int save() {
        snapshot.copyFrom(state);
        hasSnapshot = true;
        return state.now;
    }

    public int restore() throws IllegalStateException {
        if (!hasSnapshot) {
            throw new IllegalStateException("there is no snapshot");
        }
        state.copyFrom(snapshot);
        history.forget();
        return state.now;
    }

    // ---- what the calls above demand

    private static void throwIfRefused(int refusal) {
        if (refusal == NO_SUCH_INDEX) {
            throw new IndexOutOfBoundsException("there is no such pendulum or leg");
        }
        if (refusal == OUT_OF_RANGE) {
            throw new IllegalArgumentException("the number is out of range");
        }
        if (refusal == WRONG_STATE) {
            throw new IllegalStateException("the state does not allow it");
        }
    }

    private void requirePendulum(int pendulum) {
        if (!state.hasPendulum(pendulum)) {
            throw new IndexOutOfBoundsException("there is no such pendulum");
        }
    }

    private void requireSwinging(int pendulum) {
        if (!state.isSwinging(pendulum)) {
            throw new NoSuchElementException("the pendulum is at rest");
        }
    }

    private void requireBothSwinging(int one, int other) {
        requirePendulum(one);
        requirePendulum(other);
        if (!state.isSwinging(one) || !state.isSwinging(other)) {
            throw new IllegalStateException("one of the pendulums is at rest");
        }
    }

    private static int requireMeeting(int tick) {
        if (tick == NONE) {
            throw new NoSuchElementException("the pendulums never meet");
        }
        return tick;
    }

    private void requireRecord(int kind) {
        if (!State.isKind(kind)) {
            throw new IllegalArgumentException("there is no such class");
        }
        if (state.recordAt(kind) == 0) {
            throw new NoSuchElementException("no pendulum of the class has been pushed so far");
        }
    }

    private void requireLeg(int leg) {
        if (!state.hasLeg(leg)) {
            throw new IndexOutOfBoundsException("there is no such leg");
        }
    }

    private void requireRelay() {
        if (state.pendulums < state.legs) {
            throw new IllegalStateException("there are fewer pendulums than legs");
        }
    }

    private static void requireQuota(int swings, int least) {
        if (swings < least || swings > MAX_QUOTA) {
            throw new IllegalArgumentException("the number of swings is out of range");
        }
    }

    private static int requireEnough(int number) {
        if (number == NONE) {
            throw new NoSuchElementException("all pendulums together cannot do so many swings");
        }
        return number;
    }

    /** Runs the commands that were read; answers the index of the one that failed, or NONE. */
    private int firstFailure() {
        for (int command = 0; command < program.commands(); command++) {
            if (!obey(program.wordAt(command), program.digitAt(command), program.numberAt(command))) {
                return command;
            }
        }
        return NONE;
    }

    private boolean obey(Word word, int digit, int number) {
        if (word == null) {
            return false;
        }
        switch (word) {
            case HANG:
                return state.hang(number) != NONE;
            case PUSH:
                return state.swingUp(digit, number) != NONE;
            case CATCH:
                return state.stop(digit) != NONE;
            case FRICTION:
                return state.changeFriction(number) != NONE;
            case LEG:
                return state.appendLeg(number) != NONE;
            case CUT:
                return state.dropLeg(digit) != NONE;
            case TICK:
                return state.waitFor(number) != NONE;
            default:
                return false;
        }
    }

    /** Gives the legs from this one on every free pendulum; answers the least cost known then. */
    private static int bestByTrying(State state, int leg, int taken, int cost, int best) {
        if (cost >= best) {
            return best;
        }
        if (leg >= state.legs || leg >= MAX_LEGS) {
            return cost;
        }
        int found = best;
        for (int pendulum = 0; pendulum < state.pendulums; pendulum++) {
            int bit = 1 << pendulum;
            if ((taken & bit) == 0) {
                found = bestByTrying(state, leg + 1, taken | bit, cost + state.misfit(pendulum, leg), found);
            }
        }
        return found;
    }

    /** All that undo and restore bring back. Each change answers NONE, and changes nothing, if it is refused. */
    private static final class State {
        private final int[] lengths = new int[MAX_PENDULUMS];
        private final int[] periods = new int[MAX_PENDULUMS];
        private final int[] amplitudes = new int[MAX_PENDULUMS];
        private final int[] starts = new int[MAX_PENDULUMS];
        private final int[] swings = new int[MAX_PENDULUMS];
        private final int[] records = new int[CLASSES];
        private final int[] holders = new int[CLASSES];
        private final int[] wishes = new int[MAX_LEGS];
        int pendulums = 0;
        int legs = 0;
        int now = 0;
        int friction = FIRST_FRICTION;

        void copyFrom(State other) {
            System.arraycopy(other.lengths, 0, lengths, 0, MAX_PENDULUMS);
            System.arraycopy(other.periods, 0, periods, 0, MAX_PENDULUMS);
            System.arraycopy(other.amplitudes, 0, amplitudes, 0, MAX_PENDULUMS);
            System.arraycopy(other.starts, 0, starts, 0, MAX_PENDULUMS);
            System.arraycopy(other.swings, 0, swings, 0, MAX_PENDULUMS);
            System.arraycopy(other.records, 0, records, 0, CLASSES);
            System.arraycopy(other.holders, 0, holders, 0, CLASSES);
            System.arraycopy(other.wishes, 0, wishes, 0, MAX_LEGS);
            pendulums = other.pendulums;
            legs = other.legs;
            now = other.now;
            friction = other.friction;
        }

        boolean hasPendulum(int pendulum) {
            return pendulum >= 0 && pendulum < pendulums && pendulum < MAX_PENDULUMS;
        }

        boolean hasLeg(int leg) {
            return leg >= 0 && leg < legs && leg < MAX_LEGS;
        }

        boolean isSwinging(int pendulum) {
            return hasPendulum(pendulum) && amplitudes[pendulum] > 0;
        }

        int lengthAt(int pendulum) {
            return hasPendulum(pendulum) ? lengths[pendulum] : 0;
        }

        int periodAt(int pendulum) {
            return hasPendulum(pendulum) ? periods[pendulum] : 0;
        }

        int amplitudeAt(int pendulum) {
            return hasPendulum(pendulum) ? amplitudes[pendulum] : 0;
        }

        int startAt(int pendulum) {
            return hasPendulum(pendulum) ? starts[pendulum] : 0;
        }

        int swingsAt(int pendulum) {
            return hasPendulum(pendulum) ? swings[pendulum] : 0;
        }

        int wishAt(int leg) {
            return hasLeg(leg) ? wishes[leg] : 0;
        }

        // A push gives one degree at least, so that a record of 0 says that there is none yet.
        int recordAt(int kind) {
            return isKind(kind) ? records[kind] : 0;
        }

        int holderAt(int kind) {
            return isKind(kind) && records[kind] > 0 ? holders[kind] : NONE;
        }

        static boolean isKind(int kind) {
            return kind >= 0 && kind < CLASSES;
        }

        int refusalToHang(int length) {
            if (length < 1 || length > MAX_LENGTH) {
                return OUT_OF_RANGE;
            }
            return pendulums >= MAX_PENDULUMS ? WRONG_STATE : ALLOWED;
        }

        int hang(int length) {
            if (refusalToHang(length) != ALLOWED) {
                return NONE;
            }
            int pendulum = pendulums;
            lengths[pendulum] = length;
            periods[pendulum] = Numbers.rootByBits(squareOfPeriod(length));
            amplitudes[pendulum] = 0;
            starts[pendulum] = 0;
            swings[pendulum] = 0;
            pendulums = pendulum + 1;
            return pendulum;
        }

        static int squareOfPeriod(int length) {
            return 36 * length;
        }

        int refusalToSwingUp(int pendulum, int degrees) {
            if (!hasPendulum(pendulum)) {
                return NO_SUCH_INDEX;
            }
            if (degrees < 1 || degrees > MAX_AMPLITUDE) {
                return OUT_OF_RANGE;
            }
            return amplitudes[pendulum] + degrees > MAX_AMPLITUDE ? WRONG_STATE : ALLOWED;
        }

        int swingUp(int pendulum, int degrees) {
            if (refusalToSwingUp(pendulum, degrees) != ALLOWED) {
                return NONE;
            }
            if (amplitudes[pendulum] == 0) {
                starts[pendulum] = now;
            }
            amplitudes[pendulum] += degrees;
            noteRecord(kindOf(pendulum), pendulum, amplitudes[pendulum]);
            return amplitudes[pendulum];
        }

        // Only a greater amplitude takes the record over: the holder is the first one that reached it.
        private void noteRecord(int kind, int pendulum, int amplitude) {
            if (isKind(kind) && amplitude > records[kind]) {
                records[kind] = amplitude;
                holders[kind] = pendulum;
            }
        }

        int refusalToStop(int pendulum) {
            if (!hasPendulum(pendulum)) {
                return NO_SUCH_INDEX;
            }
            return amplitudes[pendulum] == 0 ? WRONG_STATE : ALLOWED;
        }

        int stop(int pendulum) {
            if (refusalToStop(pendulum) != ALLOWED) {
                return NONE;
            }
            int amplitude = amplitudes[pendulum];
            amplitudes[pendulum] = 0;
            return amplitude;
        }

        int refusalOfFriction(int newFriction) {
            return newFriction < 0 || newFriction > MAX_FRICTION ? OUT_OF_RANGE : ALLOWED;
        }

        int changeFriction(int newFriction) {
            if (refusalOfFriction(newFriction) != ALLOWED) {
                return NONE;
            }
            int previous = friction;
            friction = newFriction;
            return previous;
        }

        int refusalToWait(int ticks) {
            return ticks < 1 || ticks > MAX_TICKS ? OUT_OF_RANGE : ALLOWED;
        }

        int waitFor(int ticks) {
            if (refusalToWait(ticks) != ALLOWED) {
                return NONE;
            }
            int completed = 0;
            for (int tick = 0; tick < ticks; tick++) {
                now++;
                completed += swingAll();
            }
            return completed;
        }

        private int swingAll() {
            int completed = 0;
            for (int pendulum = 0; pendulum < pendulums; pendulum++) {
                if (isSwinging(pendulum) && Numbers.divides(periods[pendulum], now - starts[pendulum])) {
                    amplitudes[pendulum] = afterSwing(amplitudes[pendulum]);
                    swings[pendulum]++;
                    completed++;
                }
            }
            return completed;
        }

        int afterSwing(int amplitude) {
            return amplitude - Math.max(1, amplitude * friction / 100);
        }

        int refusalToAppendLeg(int period) {
            if (period < 1 || period > MAX_WISH) {
                return OUT_OF_RANGE;
            }
            return legs >= MAX_LEGS ? WRONG_STATE : ALLOWED;
        }

        int appendLeg(int period) {
            if (refusalToAppendLeg(period) != ALLOWED) {
                return NONE;
            }
            wishes[legs] = period;
            legs++;
            return legs;
        }

        int refusalToDropLeg(int leg) {
            return hasLeg(leg) ? ALLOWED : NO_SUCH_INDEX;
        }

        int dropLeg(int leg) {
            if (refusalToDropLeg(leg) != ALLOWED) {
                return NONE;
            }
            int period = wishes[leg];
            legs--;
            for (int later = leg; later < legs; later++) {
                wishes[later] = wishes[later + 1];
            }
            return period;
        }

        int kindOf(int pendulum) {
            int length = lengthAt(pendulum);
            if (length < MIDDLE_FROM) {
                return SHORT;
            }
            return length < LONG_FROM ? MIDDLE : LONG;
        }

        boolean holdsRecord(int pendulum) {
            return hasPendulum(pendulum) && holderAt(kindOf(pendulum)) == pendulum;
        }

        int ranked(int rank) {
            for (int pendulum = 0; pendulum < pendulums; pendulum++) {
                if (rankOf(pendulum) == rank) {
                    return pendulum;
                }
            }
            return NONE;
        }

        private int rankOf(int pendulum) {
            int ahead = 0;
            for (int other = 0; other < pendulums; other++) {
                if (isAhead(other, pendulum)) {
                    ahead++;
                }
            }
            return ahead;
        }

        private boolean isAhead(int one, int other) {
            if (amplitudeAt(one) != amplitudeAt(other)) {
                return amplitudeAt(one) > amplitudeAt(other);
            }
            if (swingsAt(one) != swingsAt(other)) {
                return swingsAt(one) > swingsAt(other);
            }
            return one < other;
        }

        int swingingCount() {
            int count = 0;
            for (int pendulum = 0; pendulum < pendulums; pendulum++) {
                if (isSwinging(pendulum)) {
                    count++;
                }
            }
            return count;
        }

        int amplitudeSum() {
            int sum = 0;
            for (int pendulum = 0; pendulum < pendulums; pendulum++) {
                sum += amplitudeAt(pendulum);
            }
            return sum;
        }

        /** What the pendulum costs a relay if it runs the leg. */
        int misfit(int pendulum, int leg) {
            if (!hasPendulum(pendulum) || !hasLeg(leg)) {
                return TOO_DEAR;
            }
            return Math.abs(periods[pendulum] - wishes[leg]);
        }

        int swingsInWeek(int pendulum) {
            return Numbers.quotient(WEEK, periodAt(pendulum));
        }

        /** The first tick after the present one in which the pendulum completes a swing if it still swings. */
        int nextSwing(int pendulum) {
            int period = periodAt(pendulum);
            return now + period - Numbers.remainder(now - startAt(pendulum), period);
        }
    }

    /** The states before the last modifications, in a ring that forgets the oldest ones. */
    private static final class History {
        private final State[] ring = new State[MAX_UNDO];
        private int next = 0;
        private int kept = 0;

        History() {
            for (int slot = 0; slot < ring.length; slot++) {
                ring[slot] = new State();
            }
        }

        int size() {
            return kept;
        }

        void forget() {
            kept = 0;
        }

        void keep(State state) {
            State slot = slotAt(next);
            if (slot == null) {
                return;
            }
            slot.copyFrom(state);
            next = next + 1 < MAX_UNDO ? next + 1 : 0;
            kept = Math.min(kept + 1, MAX_UNDO);
        }

        void takeBackInto(State state) {
            int last = next > 0 ? next - 1 : MAX_UNDO - 1;
            State slot = slotAt(last);
            if (kept == 0 || slot == null) {
                return;
            }
            state.copyFrom(slot);
            next = last;
            kept--;
        }

        private State slotAt(int index) {
            return index >= 0 && index < ring.length ? ring[index] : null;
        }
    }

    /** Whole numbers: every division of the program whose divisor is not written out stands here. */
    private static final class Numbers {
        static int quotient(int number, int divisor) {
            return divisor == 0 ? 0 : number / divisor;
        }

        static int remainder(int number, int divisor) {
            return divisor == 0 ? 0 : number % divisor;
        }

        static boolean divides(int divisor, int number) {
            return divisor != 0 && number % divisor == 0;
        }

        // 32 is the highest bit: the greatest square here is 36 * 99, which is less than 64 * 64.
        static int rootByBits(int square) {
            int root = 0;
            for (int bit = 32; bit > 0; bit >>= 1) {
                int trial = root + bit;
                if (trial * trial <= square) {
                    root = trial;
                }
            }
            return root;
        }

        // From above the estimates fall until they reach the root; the first that does not fall is the root.
        static int rootByEstimates(int square) {
            int estimate = square;
            for (int step = 0; step < MANY_STEPS && estimate > 0; step++) {
                int better = (estimate + square / estimate) / 2;
                if (better >= estimate) {
                    return estimate;
                }
                estimate = better;
            }
            return estimate;
        }

        static int greatestDivisor(int one, int other) {
            int great = one;
            int small = other;
            for (int step = 0; step < MANY_STEPS && small != 0; step++) {
                int left = great % small;
                great = small;
                small = left;
            }
            return great;
        }

        static int leastMultiple(int one, int other) {
            return quotient(one, greatestDivisor(one, other)) * other;
        }

        /** The number whose product with the given one leaves 1; the two must have no common divisor. */
        static int inverse(int number, int modulus) {
            int great = number;
            int small = modulus;
            int factor = 1;
            int nextFactor = 0;
            for (int step = 0; step < MANY_STEPS && small != 0; step++) {
                int times = great / small;
                int left = great - times * small;
                great = small;
                small = left;
                int nextButOne = factor - times * nextFactor;
                factor = nextFactor;
                nextFactor = nextButOne;
            }
            return modulus > 0 ? Math.floorMod(factor, modulus) : 0;
        }
    }

    /** How pendulums will come to rest if nobody touches them and the friction stays. */
    private static final class Forecast {
        private final int[] swingsFrom = new int[MAX_AMPLITUDE + 1];

        int swingsOneByOne(State state, int pendulum) {
            int amplitude = state.amplitudeAt(pendulum);
            int swings = 0;
            while (amplitude > 0 && swings < MAX_AMPLITUDE) {
                amplitude = state.afterSwing(amplitude);
                swings++;
            }
            return swings;
        }

        int swingsFromTable(State state, int pendulum) {
            fillTable(state);
            return tableAt(state.amplitudeAt(pendulum));
        }

        private void fillTable(State state) {
            swingsFrom[0] = 0;
            for (int amplitude = 1; amplitude < swingsFrom.length; amplitude++) {
                swingsFrom[amplitude] = 1 + tableAt(state.afterSwing(amplitude));
            }
        }

        private int tableAt(int amplitude) {
            return amplitude >= 0 && amplitude < swingsFrom.length ? swingsFrom[amplitude] : 0;
        }

        int lastTick(State state, int pendulum) {
            int further = swingsOneByOne(state, pendulum) - 1;
            return state.nextSwing(pendulum) + further * state.periodAt(pendulum);
        }

        int laterAmplitude(State state, int pendulum, int ticks) {
            int amplitude = state.amplitudeAt(pendulum);
            int period = state.periodAt(pendulum);
            int first = state.nextSwing(pendulum) - state.now;
            if (period <= 0) {
                return amplitude;
            }
            for (int tick = first; tick <= ticks && amplitude > 0; tick += period) {
                amplitude = state.afterSwing(amplitude);
            }
            return amplitude;
        }
    }

    /** In which ticks pendulums meet; the answer NONE says never. */
    private static final class Meetings {
        // The ticks recur after the product of the periods, if not before.
        static int tickByTick(State state, int one, int other) {
            int product = state.periodAt(one) * state.periodAt(other);
            for (int ahead = 1; ahead <= product; ahead++) {
                int tick = state.now + ahead;
                if (swingsIn(state, one, tick) && swingsIn(state, other, tick)) {
                    return tick;
                }
            }
            return NONE;
        }

        private static boolean swingsIn(State state, int pendulum, int tick) {
            return Numbers.divides(state.periodAt(pendulum), tick - state.startAt(pendulum));
        }

        static int byDivisors(State state, int one, int other) {
            if (!everMeet(state, one, other)) {
                return NONE;
            }
            int period = state.periodAt(one);
            int divisor = Numbers.greatestDivisor(period, state.periodAt(other));
            int modulus = Numbers.quotient(state.periodAt(other), divisor);
            if (modulus <= 0) {
                return NONE;
            }
            int first = state.nextSwing(one);
            int steps = Numbers.quotient(state.nextSwing(other) - first, divisor);
            int inverse = Numbers.inverse(Numbers.quotient(period, divisor), modulus);
            return first + Math.floorMod(steps * inverse, modulus) * period;
        }

        static boolean everMeet(State state, int one, int other) {
            int divisor = Numbers.greatestDivisor(state.periodAt(one), state.periodAt(other));
            return Numbers.divides(divisor, state.startAt(one) - state.startAt(other));
        }

        static int pairs(State state) {
            int pairs = 0;
            for (int one = 0; one < state.pendulums; one++) {
                for (int other = 0; other < one; other++) {
                    if (state.isSwinging(one) && state.isSwinging(other) && everMeet(state, one, other)) {
                        pairs++;
                    }
                }
            }
            return pairs;
        }
    }

    /** The least costs of relays, kept for all sets of pendulums that already run. */
    private static final class Relay {
        // What the legs behind the set's ones still cost at least; a set runs as many legs as it has pendulums.
        private final int[] leastBehind = new int[1 << MAX_PENDULUMS];

        int leastCost(State state) {
            fillSets(state);
            return behind(0);
        }

        int runner(State state, int leg) {
            fillSets(state);
            int taken = 0;
            for (int earlier = 0; earlier < leg; earlier++) {
                taken |= 1 << cheapest(state, earlier, taken);
            }
            return cheapest(state, leg, taken);
        }

        private void fillSets(State state) {
            for (int taken = (1 << MAX_PENDULUMS) - 1; taken >= 0; taken--) {
                int leg = Integer.bitCount(taken);
                leastBehind[taken] = leg >= state.legs ? 0 : costWith(state, leg, taken, cheapest(state, leg, taken));
            }
        }

        // Of equal costs the first pendulum stays: that makes the relay the first of the cheapest ones.
        private int cheapest(State state, int leg, int taken) {
            int best = 0;
            int least = TOO_DEAR;
            for (int pendulum = 0; pendulum < state.pendulums; pendulum++) {
                int cost = costWith(state, leg, taken, pendulum);
                if (cost < least) {
                    best = pendulum;
                    least = cost;
                }
            }
            return best;
        }

        private int costWith(State state, int leg, int taken, int pendulum) {
            int bit = 1 << pendulum;
            return (taken & bit) != 0 ? TOO_DEAR : state.misfit(pendulum, leg) + behind(taken | bit);
        }

        private int behind(int taken) {
            return taken >= 0 && taken < leastBehind.length ? leastBehind[taken] : TOO_DEAR;
        }
    }

    /** What pendulums can swing together in a week; a set's bits are the numbers of its pendulums. */
    private static final class Quota {
        static int fewestGreatestFirst(State state, int swings) {
            int taken = 0;
            int sum = 0;
            for (int number = 1; number <= state.pendulums; number++) {
                int pendulum = greatestFree(state, taken);
                taken |= 1 << pendulum;
                sum += state.swingsInWeek(pendulum);
                if (sum >= swings) {
                    return number;
                }
            }
            return NONE;
        }

        private static int greatestFree(State state, int taken) {
            int best = 0;
            int most = NONE;
            for (int pendulum = 0; pendulum < state.pendulums; pendulum++) {
                boolean isFree = !contains(taken, pendulum);
                if (isFree && state.swingsInWeek(pendulum) > most) {
                    best = pendulum;
                    most = state.swingsInWeek(pendulum);
                }
            }
            return best;
        }

        static int fewestOfAllSets(State state, int swings) {
            int fewest = NONE;
            for (int set = 0; set < 1 << state.pendulums; set++) {
                int number = Integer.bitCount(set);
                if (sumOf(state, set) >= swings && (fewest == NONE || number < fewest)) {
                    fewest = number;
                }
            }
            return fewest;
        }

        static int setsWithExactly(State state, int swings) {
            int sets = 0;
            for (int set = 0; set < 1 << state.pendulums; set++) {
                if (sumOf(state, set) == swings) {
                    sets++;
                }
            }
            return sets;
        }

        private static boolean contains(int set, int pendulum) {
            return (set & (1 << pendulum)) != 0;
        }

        private static int sumOf(State state, int set) {
            int sum = 0;
            for (int pendulum = 0; pendulum < state.pendulums; pendulum++) {
                if (contains(set, pendulum)) {
                    sum += state.swingsInWeek(pendulum);
                }
            }
            return sum;
        }
    }

    /** The first words of commands, each with its blank, and what follows them. */
    private enum Word {
        HANG("hang ", false, true),
        PUSH("push ", true, true),
        CATCH("catch ", true, false),
        FRICTION("friction ", false, true),
        LEG("leg ", false, true),
        CUT("cut ", true, false),
        TICK("tick ", false, true);

        private static final Word[] ALL = values();

        final String spelling;
        final boolean takesDigit;
        final boolean takesNumber;

        Word(String spelling, boolean takesDigit, boolean takesNumber) {
            this.spelling = spelling;
            this.takesDigit = takesDigit;
            this.takesNumber = takesNumber;
        }
    }

    /** The buffer, and the commands that were read from it; they stay when the buffer is emptied. */
    private static final class Program {
        private final char[] text = new char[MAX_TEXT];
        // A command has more than one character, so that there are never more commands than characters.
        private final Word[] words = new Word[MAX_TEXT];
        private final int[] digits = new int[MAX_TEXT];
        private final int[] numbers = new int[MAX_TEXT];
        private int length = 0;
        private int commands = 0;
        private int position = 0;

        boolean isFull() {
            return length >= MAX_TEXT;
        }

        int append(char character) {
            if (!isFull()) {
                text[length] = character;
                length++;
            }
            return length;
        }

        void empty() {
            length = 0;
        }

        int commands() {
            return commands;
        }

        Word wordAt(int command) {
            return command >= 0 && command < words.length ? words[command] : null;
        }

        int digitAt(int command) {
            return command >= 0 && command < digits.length ? digits[command] : NONE;
        }

        int numberAt(int command) {
            return command >= 0 && command < numbers.length ? numbers[command] : NONE;
        }

        /** Where reading stopped: behind the program, or at its error. */
        int position() {
            return position;
        }

        /** Reads the commands in the buffer; answers false if they are no program. */
        boolean read() {
            position = 0;
            commands = 0;
            for (int command = 0; command < MAX_TEXT; command++) {
                if (!readCommand()) {
                    return false;
                }
                if (position == length) {
                    return true;
                }
                if (!readSign(';')) {
                    return false;
                }
            }
            return false;
        }

        private boolean readCommand() {
            Word word = readWord();
            if (word == null) {
                return false;
            }
            int digit = word.takesDigit ? readDigits(1) : 0;
            if (digit == NONE) {
                return false;
            }
            if (word.takesDigit && word.takesNumber && !readSign(' ')) {
                return false;
            }
            int number = word.takesNumber ? readDigits(MAX_DIGITS) : 0;
            if (number == NONE) {
                return false;
            }
            keepCommand(word, digit, number);
            return true;
        }

        private void keepCommand(Word word, int digit, int number) {
            if (commands < MAX_TEXT) {
                words[commands] = word;
                digits[commands] = digit;
                numbers[commands] = number;
                commands++;
            }
        }

        // If no word stands here, the one that fits longest tells where the text went wrong.
        private Word readWord() {
            int longest = 0;
            for (int index = 0; index < Word.ALL.length; index++) {
                Word word = Word.ALL[index];
                int fitting = fittingSigns(word.spelling);
                if (fitting == word.spelling.length()) {
                    position += fitting;
                    return word;
                }
                longest = Math.max(longest, fitting);
            }
            position += longest;
            return null;
        }

        private int fittingSigns(String spelling) {
            int fitting = 0;
            while (fitting < spelling.length() && signAt(position + fitting) == spelling.charAt(fitting)) {
                fitting++;
            }
            return fitting;
        }

        private boolean readSign(char sign) {
            boolean stands = signAt(position) == sign;
            if (stands) {
                position++;
            }
            return stands;
        }

        private int readDigits(int most) {
            int number = NONE;
            for (int read = 0; read < most && isDigit(signAt(position)); read++) {
                number = Math.max(number, 0) * 10 + (signAt(position) - '0');
                position++;
            }
            return number;
        }

        private static boolean isDigit(char sign) {
            return sign >= '0' && sign <= '9';
        }

        // Behind the end stands a character that can't be typed.
        private char signAt(int index) {
            return index >= 0 && index < length && index < MAX_TEXT ? text[index] : (char) 0;
        }
    }
}
