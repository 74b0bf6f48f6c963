import java.util.ArrayList;
import java.util.List;

/**
 * What can be asked of a gymnasium to find out what a call changed in it. Each question is put to a gymnasium of its
 * own, since some of them change it and since an object answers 512 calls at most.
 */
enum Questions {
    ANSWERS {
        @Override
        List<String> ask(PendulumGym gym) {
            List<String> answers = new ArrayList<>();
            for (int pendulum = 0; pendulum <= gym.pendulumCount(); pendulum++) {
                askPendulum(answers, gym, pendulum);
            }
            askLegs(answers, gym);
            askWhole(answers, gym);
            askCard(answers, gym);
            return answers;
        }
    },
    ERROR {
        @Override
        List<String> ask(PendulumGym gym) {
            return List.of("errorPosition() " + Check.outcome(gym::errorPosition));
        }
    },
    FAILURE {
        @Override
        List<String> ask(PendulumGym gym) {
            return List.of("failedCommand() " + Check.outcome(gym::failedCommand));
        }
    },
    UNDONE {
        @Override
        List<String> ask(PendulumGym gym) {
            List<String> answers = new ArrayList<>();
            for (int round = 0; round <= 8; round++) {
                answers.add("undo() " + Check.outcome(gym::undo));
                answers.add("the state behind it: " + inShort(gym));
            }
            return answers;
        }
    },
    RESTORED {
        @Override
        List<String> ask(PendulumGym gym) {
            return List.of("restore() " + Check.outcome(gym::restore), "the state behind it: " + inShort(gym));
        }
    },
    TYPED {
        @Override
        List<String> ask(PendulumGym gym) {
            return List.of("type(';') " + Check.outcome(() -> gym.type(';')));
        }
    },
    EXECUTED {
        @Override
        List<String> ask(PendulumGym gym) {
            return List.of("execute() " + Check.outcome(gym::execute), "the state behind it: " + inShort(gym));
        }
    };

    abstract List<String> ask(PendulumGym gym);

    private static void askPendulum(List<String> answers, PendulumGym gym, int pendulum) {
        String of = "(" + pendulum + ") ";
        int next = pendulum + 1;
        answers.add("lengthOf" + of + Check.outcome(() -> gym.lengthOf(pendulum)));
        answers.add("classOf" + of + Check.outcome(() -> gym.classOf(pendulum)));
        answers.add("amplitudeOf" + of + Check.outcome(() -> gym.amplitudeOf(pendulum)));
        answers.add("startOf" + of + Check.outcome(() -> gym.startOf(pendulum)));
        answers.add("periodOf" + of + Check.outcome(() -> gym.periodOf(pendulum)));
        answers.add("periodByEstimates" + of + Check.outcome(() -> gym.periodByEstimates(pendulum)));
        answers.add("swingsOf" + of + Check.outcome(() -> gym.swingsOf(pendulum)));
        answers.add("pendulumAtRank" + of + Check.outcome(() -> gym.pendulumAtRank(pendulum)));
        answers.add("swingsToRest" + of + Check.outcome(() -> gym.swingsToRest(pendulum)));
        answers.add("swingsToRestByTable" + of + Check.outcome(() -> gym.swingsToRestByTable(pendulum)));
        answers.add("restTick" + of + Check.outcome(() -> gym.restTick(pendulum)));
        answers.add("amplitudeAfter 100 " + of + Check.outcome(() -> gym.amplitudeAfter(pendulum, 100)));
        answers.add("meeting the next" + of + Check.outcome(() -> gym.meeting(pendulum, next)));
        answers.add("meetingByDivisors the next" + of + Check.outcome(() -> gym.meetingByDivisors(pendulum, next)));
        answers.add("cycleOf the next" + of + Check.outcome(() -> gym.cycleOf(pendulum, next)));
    }

    private static void askLegs(List<String> answers, PendulumGym gym) {
        answers.add("legCount() " + gym.legCount());
        for (int number = 0; number <= 6; number++) {
            int leg = number;
            answers.add("wishOf(" + leg + ") " + Check.outcome(() -> gym.wishOf(leg)));
            answers.add("runnerOf(" + leg + ") " + Check.outcome(() -> gym.runnerOf(leg)));
        }
        answers.add("leastRelay() " + Check.outcome(gym::leastRelay));
        answers.add("leastRelayByTrying() " + Check.outcome(gym::leastRelayByTrying));
    }

    private static void askWhole(List<String> answers, PendulumGym gym) {
        answers.add("pendulumCount() " + gym.pendulumCount());
        answers.add("clock() " + gym.clock());
        answers.add("friction() " + gym.friction());
        for (int number = PendulumGym.SHORT; number <= PendulumGym.LONG; number++) {
            int kind = number;
            answers.add("recordOf(" + kind + ") " + Check.outcome(() -> gym.recordOf(kind)));
            answers.add("holderOf(" + kind + ") " + Check.outcome(() -> gym.holderOf(kind)));
        }
        answers.add("meetingPairs() " + gym.meetingPairs());
        answers.add("meanAmplitude() " + Check.outcome(gym::meanAmplitude));
        answers.add("fewestFor(20) " + Check.outcome(() -> gym.fewestFor(20)));
        answers.add("fewestForBySets(20) " + Check.outcome(() -> gym.fewestForBySets(20)));
        answers.add("exactSets(14) " + gym.exactSets(14));
    }

    private static void askCard(List<String> answers, PendulumGym gym) {
        for (int place = 0; place < 20; place++) {
            int index = place;
            answers.add("cardAt(" + index + ") " + Check.outcome(() -> gym.cardAt(index)));
        }
    }

    /** What undo and restore bring back, asked with so few calls that it can be asked behind every undo. */
    private static String inShort(PendulumGym gym) {
        StringBuilder text = new StringBuilder();
        int pendulums = gym.pendulumCount();
        int legs = gym.legCount();
        text.append(gym.clock()).append(' ').append(gym.friction());
        for (int number = 0; number < pendulums; number++) {
            int pendulum = number;
            text.append(" | ").append(gym.amplitudeOf(pendulum)).append(' ').append(gym.swingsOf(pendulum)).append(' ')
                .append(Check.outcome(() -> gym.startOf(pendulum)));
        }
        for (int leg = 0; leg < legs; leg++) {
            text.append(" leg ").append(gym.wishOf(leg));
        }
        for (int number = PendulumGym.SHORT; number <= PendulumGym.LONG; number++) {
            int kind = number;
            text.append(' ').append(Check.outcome(() -> gym.holderOf(kind)));
        }
        return text.toString();
    }
}
