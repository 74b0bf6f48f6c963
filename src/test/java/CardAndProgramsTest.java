import java.util.NoSuchElementException;

/** Promises 39 to 44: the card, the buffer and its programs. */
public final class CardAndProgramsTest {
    private static final Class<IndexOutOfBoundsException> INDEX = IndexOutOfBoundsException.class;
    private static final Class<IllegalArgumentException> ARGUMENT = IllegalArgumentException.class;
    private static final Class<IllegalStateException> STATE = IllegalStateException.class;
    private static final Class<NoSuchElementException> MISSING = NoSuchElementException.class;
    private static final String REFUSED = "throws IllegalStateException";

    public static void main(String[] args) {
        cards();
        cardAt();
        type();
        everyCommand();
        limitsOfPrograms();
        failures();
        malformed();
        errorsStay();
        Check.finish("CardAndProgramsTest");
    }

    private static void cards() {
        PendulumGym gym = Check.gymWith(25, 29, 60, 25);
        Check.due(39, "the card at rest", Check.card(gym, 0), "0:25cm rest");
        gym.pass(12);
        gym.push(3, 40);
        Check.due(39, "the document's card", Check.card(gym, 3), "3:25cm 40@12*");
        Check.due(39, "writeCard(3)", gym.writeCard(3), 13);
        gym.push(1, 40);
        Check.due(39, "no star for the second", Check.card(gym, 1), "1:29cm 40@12");
        gym.catchPendulum(3);
        Check.due(39, "the star at rest", Check.card(gym, 3), "3:25cm rest*");
        Check.due(39, "no star without a push in the class", Check.card(gym, 2), "2:60cm rest");
        gym.push(2, 1);
        Check.due(39, "the star of another class", Check.card(gym, 2), "2:60cm 1@12*");
        gym.push(1, 1);
        Check.due(39, "the star went", Check.card(gym, 3), "3:25cm rest");
        for (int pendulum : new int[] {4, 8, -1, Integer.MIN_VALUE, Integer.MAX_VALUE}) {
            Check.refused(39, "writeCard(" + pendulum + ")", INDEX, () -> gym.writeCard(pendulum));
        }
        Check.due(39, "the card after refusals", Check.written(gym, 11), "3:25cm rest");
        PendulumGym late = Check.gymWith(1, 9);
        for (int hour = 0; hour < 250; hour++) {
            late.pass(500);
        }
        late.push(1, 60);
        Check.due(39, "a long card", Check.card(late, 1), "1:9cm 60@125000*");
    }

    private static void cardAt() {
        PendulumGym gym = Check.gymWith(25);
        for (int index : new int[] {0, -1, 1, Integer.MIN_VALUE, Integer.MAX_VALUE}) {
            Check.refused(40, "cardAt(" + index + ") at first", INDEX, () -> gym.cardAt(index));
        }
        gym.push(0, 5);
        int length = gym.writeCard(0);
        Check.due(40, "the whole card", Check.written(gym, length), "0:25cm 5@0*");
        for (int index : new int[] {length, -1, 60, Integer.MIN_VALUE, Integer.MAX_VALUE}) {
            Check.refused(40, "cardAt(" + index + ")", INDEX, () -> gym.cardAt(index));
        }
        gym.push(0, 5);
        Check.due(40, "the card stays as it was written", Check.written(gym, length), "0:25cm 5@0*");
        gym.undo();
        gym.undo();
        Check.due(40, "the card after undo", Check.written(gym, length), "0:25cm 5@0*");
        gym.save();
        gym.restore();
        Check.due(40, "the card after restore", Check.written(gym, length), "0:25cm 5@0*");
        gym.writeCard(0);
        Check.refused(40, "behind a shorter card", INDEX, () -> gym.cardAt(11));
    }

    private static void type() {
        PendulumGym gym = new PendulumGym();
        for (char wrong : new char[] {31, 127, 0, '\n', 233, 0x20AC, 0xFFFF}) {
            Check.refused(41, "type(" + (int) wrong + ")", ARGUMENT, () -> gym.type(wrong));
        }
        for (int number = 1; number <= 60; number++) {
            char sign = number % 2 == 0 ? (char) 32 : (char) 126;
            Check.due(41, "type number " + number, gym.type(sign), number);
        }
        Check.refused(41, "type of a 61st", STATE, () -> gym.type('a'));
        Check.refused(41, "type of a wrong 61st", ARGUMENT, () -> gym.type((char) 127));
        Check.refused(42, "execute() of blanks", ARGUMENT, gym::execute);
        Check.due(41, "type after execute()", gym.type('a'), 1);
    }

    private static void everyCommand() {
        PendulumGym gym = new PendulumGym();
        Check.due(42, "hang", Check.run(gym, "hang 25;hang 1"), "2");
        Check.due(42, "hang hung", gym.lengthOf(0), 25);
        Check.due(42, "hang hung the second", gym.lengthOf(1), 1);
        Check.due(42, "push", Check.run(gym, "push 1 60"), "1");
        Check.due(42, "push pushed", gym.amplitudeOf(1), 60);
        Check.due(42, "friction", Check.run(gym, "friction 030"), "1");
        Check.due(42, "friction set", gym.friction(), 30);
        Check.due(42, "tick", Check.run(gym, "tick 006"), "1");
        Check.due(42, "tick passed", gym.clock(), 6);
        Check.due(42, "tick swung", gym.amplitudeOf(1), 42);
        Check.due(42, "catch", Check.run(gym, "catch 1"), "1");
        Check.due(42, "catch caught", gym.amplitudeOf(1), 0);
        Check.due(42, "leg", Check.run(gym, "leg 7;leg 60;leg 1"), "3");
        Check.due(42, "cut", Check.run(gym, "cut 0;cut 1"), "2");
        Check.due(42, "the leg that is left", gym.wishOf(0), 60);
        Check.due(42, "legCount()", gym.legCount(), 1);
        Check.refused(42, "errorPosition()", MISSING, gym::errorPosition);
        Check.refused(42, "failedCommand()", MISSING, gym::failedCommand);
        Check.due(41, "the buffer is empty", gym.type('x'), 1);
    }

    private static void limitsOfPrograms() {
        PendulumGym gym = new PendulumGym();
        String most = "leg 1;cut 0;leg 2;cut 0;leg 3;cut 0;leg 4;cut 0;leg 5;cut 00";
        Check.due(42, "60 characters, malformed at the last", Check.run(gym, most), "throws IllegalArgumentException");
        Check.due(43, "errorPosition()", gym.errorPosition(), 59);
        Check.due(42, "none of it was executed", gym.legCount(), 0);
        Check.due(42, "ten commands", Check.run(gym, most.substring(0, 59)), "10");
        Check.due(42, "60 characters", Check.run(gym, "tick 500;tick 500;tick 500;tick 500;tick 500;tick 500;tick 5"), "7");
        Check.due(42, "clock()", gym.clock(), 3005);
    }

    private static PendulumGym beforeFailures() {
        PendulumGym gym = Check.gymWith(1, 9);
        gym.push(0, 50);
        gym.addLeg(9);
        return gym;
    }

    private static void failures() {
        String before = Check.stateOf(beforeFailures());
        String[] programs = {"hang 0", "hang 100", "push 2 1", "push 0 0", "push 0 61", "push 0 11", "catch 9",
            "catch 1", "friction 31", "leg 0", "leg 61", "cut 1", "tick 0", "tick 501", "tick 999"};
        for (String program : programs) {
            for (int index = 0; index < 3; index++) {
                String text = "friction 9;push 1 2;".substring(index == 2 ? 0 : index == 1 ? 11 : 20) + program;
                if (program.equals("catch 1")) {
                    text = text.replace("push 1 2", "push 0 2");
                }
                PendulumGym gym = beforeFailures();
                Check.due(42, text, Check.run(gym, text), REFUSED);
                Check.due(44, "failedCommand() of " + text, gym.failedCommand(), index);
                Check.due(42, "the state after " + text, Check.stateOf(gym), before);
                Check.due(41, "the buffer after " + text, gym.type('a'), 1);
                Check.refused(42, "execute() of a", ARGUMENT, gym::execute);
            }
        }
        PendulumGym gym = beforeFailures();
        Check.due(42, "commands behind the failed one", Check.run(gym, "tick 5;hang 0;tick 5"), REFUSED);
        Check.due(44, "failedCommand()", gym.failedCommand(), 1);
        Check.due(42, "the state", Check.stateOf(gym), before);
        Check.due(42, "a seventh leg", Check.run(gym, "leg 1;leg 1;leg 1;leg 1;leg 1;leg 1"), REFUSED);
        Check.due(44, "failedCommand() of a seventh leg", gym.failedCommand(), 5);
        Check.due(42, "a ninth pendulum", Check.run(gym, "hang 1;hang 1;hang 1;hang 1;hang 1;hang 1;hang 1"), REFUSED);
        Check.due(44, "failedCommand() of a ninth pendulum", gym.failedCommand(), 6);
        Check.due(42, "the state at the end", Check.stateOf(gym), before);
        Check.due(45, "refused programs are no modifications", gym.undo(), 3);
    }

    private static void malformed() {
        Object[][] cases = {
            {"", 0}, {" ", 0}, {";", 0}, {"x", 0}, {"H", 0}, {"7", 0}, {"ang 5", 0},
            {"h", 1}, {"hang", 4}, {"hang ", 5}, {"hang  5", 5}, {"hang x", 5}, {"hang -1", 5}, {"hang;", 4},
            {"hang 5 ", 6}, {"hang 5x", 6}, {"hang 55x", 7}, {"hang 555x", 8}, {"hang 5555", 8}, {"hanG 5", 3},
            {"hang 5;", 7}, {"hang 5;;", 7}, {"hang 5; hang 5", 7}, {"hang 5;h", 8}, {"hang 5;hx", 8},
            {"push 1", 6}, {"push 1 ", 7}, {"push 12 5", 6}, {"push 1  5", 7}, {"push x", 5}, {"push 1;", 6},
            {"push 1 5555", 10}, {"p", 1}, {"pu", 2}, {"pa", 1},
            {"c", 1}, {"ca", 2}, {"cu", 2}, {"cx", 1}, {"cat", 3}, {"cut", 3}, {"catx", 3}, {"cutx", 3}, {"cux", 2},
            {"cut 55", 5}, {"catch 55", 7}, {"cut 5 ", 5}, {"catch 1 5", 7}, {"cut ", 4}, {"catch", 5},
            {"friction", 8}, {"friction 1000", 12}, {"frictionx", 8}, {"fraction 5", 2}, {"leg", 3}, {"lag 5", 1},
            {"tick 5;tock 5", 8}, {"tick 5;tick 5;c", 15}, {"tick 5,tick 5", 6}, {"tick\"5", 4}, {"tick ;", 5},
            {"tick 1/", 6}, {"tick 1:", 6}, {"tick /", 5}, {"tick :", 5}};
        for (Object[] row : cases) {
            String text = (String) row[0];
            PendulumGym gym = new PendulumGym();
            Check.due(42, "'" + text + "'", Check.run(gym, text), "throws IllegalArgumentException");
            Check.due(43, "errorPosition() of '" + text + "'", gym.errorPosition(), row[1]);
            Check.due(42, "the clock after '" + text + "'", gym.clock(), 0);
            Check.due(42, "no pendulum after '" + text + "'", gym.pendulumCount(), 0);
            Check.refused(44, "failedCommand() after '" + text + "'", MISSING, gym::failedCommand);
        }
        PendulumGym gym = new PendulumGym();
        // A malformed program counts as malformed even if an earlier command of it would have failed.
        Check.due(42, "malformed before failed", Check.run(gym, "hang 0;x"), "throws IllegalArgumentException");
        Check.due(43, "errorPosition()", gym.errorPosition(), 7);
        Check.refused(44, "failedCommand() still", MISSING, gym::failedCommand);
    }

    private static void errorsStay() {
        PendulumGym gym = new PendulumGym();
        gym.save();
        Check.refused(43, "errorPosition() at first", MISSING, gym::errorPosition);
        Check.refused(44, "failedCommand() at first", MISSING, gym::failedCommand);
        Check.run(gym, "tick 5;hang 0");
        Check.refused(43, "errorPosition() after a failure", MISSING, gym::errorPosition);
        Check.run(gym, "tick");
        Check.run(gym, "tick 5");
        Check.due(43, "errorPosition() after a success", gym.errorPosition(), 4);
        Check.due(44, "failedCommand() after a success", gym.failedCommand(), 1);
        Check.type(gym, "tick 7");
        gym.undo();
        Check.due(43, "errorPosition() after undo", gym.errorPosition(), 4);
        Check.due(44, "failedCommand() after undo", gym.failedCommand(), 1);
        gym.restore();
        Check.due(43, "errorPosition() after restore", gym.errorPosition(), 4);
        Check.due(44, "failedCommand() after restore", gym.failedCommand(), 1);
        Check.due(41, "the buffer after undo and restore", gym.type(';'), 7);
        Check.type(gym, "tick 8");
        Check.due(42, "execute() of the buffer that stayed", gym.execute(), 2);
        Check.due(42, "clock()", gym.clock(), 15);
    }
}
