import java.util.Objects;

/** What the tests share: it prints each answer that is not due and ends the test with exit code 1 if there was one. */
final class Check {
    interface Call {
        Object answer();
    }

    private static int wrong = 0;
    private static int looked = 0;

    private Check() {
    }

    /** The answer of the call must equal the due one; ints and chars are compared as they are. */
    static void due(int promise, String what, Object got, Object want) {
        looked++;
        if (!Objects.equals(got, want)) {
            wrong++;
            System.out.println("promise " + promise + ": " + what + " answered " + got + ", due is " + want);
        }
    }

    /** The call must throw exactly this exception, no class below it. */
    static void refused(int promise, String what, Class<? extends RuntimeException> want, Call call) {
        due(promise, what, outcome(call), "throws " + want.getSimpleName());
    }

    static String outcome(Call call) {
        try {
            return String.valueOf(call.answer());
        } catch (RuntimeException thrown) {
            return "throws " + thrown.getClass().getSimpleName();
        }
    }

    /** How many answers were looked at so far. */
    static int looked() {
        return looked;
    }

    static void finish(String test) {
        System.out.println(test + ": " + looked + " looked at, " + wrong + " wrong");
        if (wrong != 0 || looked == 0) {
            System.exit(1);
        }
    }

    /** Types a text into the buffer. */
    static void type(PendulumGym gym, String text) {
        for (int index = 0; index < text.length(); index++) {
            gym.type(text.charAt(index));
        }
    }

    /** Types a text and executes it; the outcome is the number of commands or the exception. */
    static String run(PendulumGym gym, String text) {
        type(gym, text);
        return outcome(gym::execute);
    }

    static String card(PendulumGym gym, int pendulum) {
        int length = gym.writeCard(pendulum);
        return written(gym, length);
    }

    static String written(PendulumGym gym, int length) {
        StringBuilder text = new StringBuilder();
        for (int index = 0; index < length; index++) {
            text.append(gym.cardAt(index));
        }
        return text.toString();
    }

    static PendulumGym gymWith(int... lengths) {
        PendulumGym gym = new PendulumGym();
        for (int length : lengths) {
            gym.addPendulum(length);
        }
        return gym;
    }

    static PendulumGym withLegs(PendulumGym gym, int... periods) {
        for (int period : periods) {
            gym.addLeg(period);
        }
        return gym;
    }

    /** Everything about a gymnasium that undo and restore bring back, as a text. */
    static String stateOf(PendulumGym gym) {
        StringBuilder text = new StringBuilder();
        text.append("clock ").append(gym.clock()).append(" friction ").append(gym.friction());
        int pendulums = gym.pendulumCount();
        int legs = gym.legCount();
        for (int p = 0; p < pendulums; p++) {
            int pendulum = p;
            text.append(" | ").append(gym.lengthOf(p)).append(' ').append(gym.periodOf(p)).append(' ')
                .append(gym.amplitudeOf(p)).append(' ').append(gym.swingsOf(p)).append(' ')
                .append(outcome(() -> gym.startOf(pendulum)));
        }
        for (int k = PendulumGym.SHORT; k <= PendulumGym.LONG; k++) {
            int kind = k;
            text.append(" | ").append(outcome(() -> gym.recordOf(kind))).append(' ')
                .append(outcome(() -> gym.holderOf(kind)));
        }
        for (int leg = 0; leg < legs; leg++) {
            text.append(" | leg ").append(gym.wishOf(leg));
        }
        return text.toString();
    }
}
