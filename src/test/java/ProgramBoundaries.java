import java.util.function.Supplier;

/** The boundaries of promises 39 to 44, and of the terms about the card and programs. */
final class ProgramBoundaries {
    private ProgramBoundaries() {
    }

    static void all() {
        terms();
        grammar();
        cards();
        buffer();
        executions();
        errors();
    }

    private static void terms() {
        Sentence.holds(Sentence.TERMS, "A card has its \"*\" also if the pendulum is at rest.",
            ProgramBoundaries::starsAtRest);
        Sentence.holds(Sentence.TERMS, "Characters are collected in a buffer of at most 60 characters.",
            ProgramBoundaries::fullBuffer);
        Sentence.holds(Sentence.TERMS, "The error position of a malformed program is the index of the first character "
            + "that cannot continue any program, or the length of the text if it ends too early.",
            ProgramBoundaries::errorPositions);
    }

    private static void grammar() {
        Sentence.holds(Sentence.TERMS, "with braces for zero or more repetitions:",
            ProgramBoundaries::oneCommandAndMore);
        Sentence.holds(Sentence.TERMS, "program = command { \";\" command }", ProgramBoundaries::semicolons);
        Sentence.holds(Sentence.TERMS, "command = \"hang \" number | \"push \" digit \" \" number | \"catch \" digit | "
            + "\"friction \" number | \"leg \" number | \"cut \" digit | \"tick \" number",
            ProgramBoundaries::wordsAndDigits);
        Sentence.holds(Sentence.TERMS, "number  = one to three digits", ProgramBoundaries::oneToThreeDigits);
    }

    private static void cards() {
        Sentence.holds(39, "Writes the card of a pendulum, in place of the card before: its number, \":\", its length "
            + "and \"cm\", a blank, and \"rest\", or its amplitude, \"@\" and its starting tick, and then \"*\" if it "
            + "holds the record of its class; as in \"3:25cm 40@12*\".", ProgramBoundaries::shortAndLongCards);
        Sentence.holds(39, "Returns the length of the card.", ProgramBoundaries::lengthsOfCards);
        Sentence.holds(39, "Throws `IndexOutOfBoundsException` if there is no such pendulum",
            () -> Sentence.noSuchPendulum("writeCard", PendulumGym::writeCard));
        Sentence.holds(40, "Returns a character of the card, which is empty at first.", ProgramBoundaries::emptyCard);
        Sentence.holds(40, "index of the character, from 0", ProgramBoundaries::firstAndLastCharacter);
        Sentence.holds(40, "Throws `IndexOutOfBoundsException` if there is no such character",
            ProgramBoundaries::noSuchCharacter);
    }

    private static void buffer() {
        Sentence.holds(41, "Returns the number of characters in the buffer.", ProgramBoundaries::countOfCharacters);
        Sentence.holds(41, "Throws `IllegalArgumentException` if the character is not from 32 to 126",
            ProgramBoundaries::charactersOutside);
        Sentence.holds(41, "Throws `IllegalStateException` if the buffer contains 60 characters",
            ProgramBoundaries::characterTooMany);
    }

    private static void executions() {
        Sentence.holds(42, "Executes the program in the buffer, all commands of it or none, and empties the buffer.",
            ProgramBoundaries::allOrNone);
        Sentence.holds(42, "Returns the number of commands.", ProgramBoundaries::countsOfCommands);
        Sentence.holds(42, "Throws `IllegalArgumentException` if the program is malformed; its error position is stored",
            ProgramBoundaries::malformedPrograms);
        Sentence.holds(42, "Throws `IllegalStateException` if the method of a command throws an exception; the index of "
            + "the command is stored", ProgramBoundaries::failingCommands);
    }

    private static void errors() {
        Sentence.holds(43, "Returns the error position of the last malformed program.", ProgramBoundaries::lastPosition);
        Sentence.holds(43, "Throws `NoSuchElementException` if no program was malformed so far",
            ProgramBoundaries::noPositionYet);
        Sentence.holds(44, "Returns the index of the last command that failed.", ProgramBoundaries::lastFailure);
        Sentence.holds(44, "Returns the index in its program, from 0.", ProgramBoundaries::failuresFromZero);
        Sentence.holds(44, "Throws `NoSuchElementException` if no command failed so far",
            ProgramBoundaries::noFailureYet);
    }

    private static void starsAtRest() {
        PendulumGym gym = Check.gymWith(1, 1, 99);
        Sentence.due("never pushed", Check.card(gym, 0), "0:1cm rest");
        gym.push(0, 1);
        Sentence.due("swinging", Check.card(gym, 0), "0:1cm 1@0*");
        gym.pass(6);
        Sentence.due("come to rest", Check.card(gym, 0), "0:1cm rest*");
        gym.push(1, 1);
        Sentence.due("of an equal one", Check.card(gym, 1), "1:1cm 1@6");
        gym.push(1, 1);
        gym.catchPendulum(1);
        Sentence.due("caught", Check.card(gym, 1), "1:1cm rest*");
        Sentence.due("the star of the one before", Check.card(gym, 0), "0:1cm rest");
        Sentence.due("another class", Check.card(gym, 2), "2:99cm rest");
    }

    private static void fullBuffer() {
        PendulumGym gym = new PendulumGym();
        for (int index = 0; index < 60; index++) {
            Sentence.due("the number of characters", gym.type(Gyms.LONGEST.charAt(index)), index + 1);
        }
        Sentence.due("a 61st character", Check.outcome(() -> gym.type('0')), "throws IllegalStateException");
        Sentence.due("execute() of all 60", gym.execute(), 7);
        Sentence.due("clock()", gym.clock(), 3005);
        Sentence.due("type() into the emptied buffer", gym.type('t'), 1);
    }

    private static void errorPositions() {
        Object[][] rows = {{"", 0}, {"x", 0}, {"h", 1}, {"hx", 1}, {"hang", 4}, {"hang ", 5}, {"hangx", 4}, {"hang x", 5},
            {"c", 1}, {"ca", 2}, {"cu", 2}, {"cx", 1}, {"cax", 2}, {"cux", 2}, {"cat", 3}, {"cut", 3}, {"catch", 5},
            {"push", 4}, {"push 1", 6}, {"push 1 ", 7}, {"push 1x", 6}, {"push 1 x", 7}, {"tick 1;", 7},
            {"tick 1;;", 7}, {"tick 1;x", 7}, {"tick 1;t", 8}, {"tick 1;hang 1;c", 15}, {"tick 1 ", 6}, {" tick 1", 0},
            {Gyms.LONGEST.substring(0, 59), 59}, {Gyms.LONGEST.substring(0, 59) + "x", 59},
            {Gyms.LONGEST.substring(0, 54) + "tick  ", 59}, {Gyms.LONGEST.substring(0, 55) + "tick ", 55},
            {Gyms.LONGEST.substring(0, 53) + ";push 1", 60}};
        for (Object[] row : rows) {
            PendulumGym gym = new PendulumGym();
            String text = (String) row[0];
            Sentence.due("execute() of '" + text + "'", Check.run(gym, text), "throws IllegalArgumentException");
            Sentence.due("errorPosition() of '" + text + "'", gym.errorPosition(), row[1]);
        }
    }

    private static void oneCommandAndMore() {
        runs("tick 1", 1, 1);
        runs("tick 1;tick 2", 2, 3);
        runs("tick 1;tick 2;tick 3;tick 4;tick 5;tick 6;tick 7;tick 8", 8, 36);
        Sentence.malformed("", 0, Gyms::ready);
    }

    private static void runs(String text, int commands, int ticks) {
        PendulumGym gym = new PendulumGym();
        Sentence.due("execute() of '" + text + "'", Check.run(gym, text), String.valueOf(commands));
        Sentence.due("clock() after '" + text + "'", gym.clock(), ticks);
    }

    private static void semicolons() {
        runs("tick 1;tick 1", 2, 2);
        Sentence.malformed(";", 0, Gyms::ready);
        Sentence.malformed(";tick 1", 0, Gyms::ready);
        Sentence.malformed("tick 1;", 7, Gyms::ready);
        Sentence.malformed("tick 1;;tick 1", 7, Gyms::ready);
        Sentence.malformed("tick 1; tick 1", 7, Gyms::ready);
        Sentence.malformed("tick 1 ;tick 1", 6, Gyms::ready);
        Sentence.malformed("tick 1:tick 1", 6, Gyms::ready);
        Sentence.malformed("tick 1,tick 1", 6, Gyms::ready);
    }

    private static void wordsAndDigits() {
        for (String word : new String[] {"hang", "friction", "leg", "tick"}) {
            int behind = word.length();
            Sentence.malformed(word, behind, Gyms::ready);
            Sentence.malformed(word + " ", behind + 1, Gyms::ready);
            Sentence.malformed(word + "5", behind, Gyms::ready);
            Sentence.malformed(word + "  5", behind + 1, Gyms::ready);
            Sentence.malformed(word + " 5 5", behind + 2, Gyms::ready);
            Sentence.malformed(word.substring(0, behind - 1) + "X 5", behind - 1, Gyms::ready);
        }
        for (String word : new String[] {"catch", "cut"}) {
            int behind = word.length();
            Sentence.malformed(word + " ", behind + 1, Gyms::ready);
            Sentence.malformed(word + "1", behind, Gyms::ready);
            Sentence.malformed(word + " 11", behind + 2, Gyms::ready);
            Sentence.malformed(word + " 1 1", behind + 2, Gyms::ready);
            Sentence.malformed(word + " x", behind + 1, Gyms::ready);
        }
        Sentence.malformed("push 2", 6, Gyms::ready);
        Sentence.malformed("push 2 ", 7, Gyms::ready);
        Sentence.malformed("push 22 5", 6, Gyms::ready);
        Sentence.malformed("push 2  5", 7, Gyms::ready);
        Sentence.malformed("push  2 5", 5, Gyms::ready);
        Sentence.malformed("push 2;", 6, Gyms::ready);
        Sentence.malformed("push 2 5 5", 8, Gyms::ready);
        PendulumGym gym = Gyms.ready();
        Sentence.due("all the words", Check.run(gym, "hang 9;push 2 5;catch 1;friction 7;leg 8;cut 0;tick 9"), "7");
        Sentence.due("hang", gym.lengthOf(4), 9);
        Sentence.due("push", gym.amplitudeOf(2), 5);
        Sentence.due("catch", gym.amplitudeOf(1), 0);
        Sentence.due("friction", gym.friction(), 7);
        Sentence.due("cut", gym.wishOf(0), 40);
        Sentence.due("leg", gym.wishOf(2), 8);
        Sentence.due("tick", gym.clock(), 23);
    }

    private static void oneToThreeDigits() {
        runs("tick 1", 1, 1);
        runs("tick 12", 1, 12);
        runs("tick 123", 1, 123);
        runs("tick 007", 1, 7);
        runs("tick 05;tick 010", 2, 15);
        Sentence.malformed("tick 1234", 8, Gyms::ready);
        Sentence.malformed("tick 0001", 8, Gyms::ready);
        Sentence.malformed("push 2 0005", 10, Gyms::ready);
        Sentence.malformed("tick ;", 5, Gyms::ready);
        Sentence.malformed("tick -1", 5, Gyms::ready);
        Sentence.malformed("tick +1", 5, Gyms::ready);
        // The neighbours of '0' and '9'.
        Sentence.malformed("tick /", 5, Gyms::ready);
        Sentence.malformed("tick :", 5, Gyms::ready);
        Sentence.malformed("tick 1/", 6, Gyms::ready);
        Sentence.malformed("cut /", 4, Gyms::ready);
        Sentence.malformed("cut :", 4, Gyms::ready);
        Sentence.failing("tick 000", 0, Gyms::ready);
        Sentence.failing("tick 999", 0, Gyms::ready);
    }

    private static void shortAndLongCards() {
        PendulumGym gym = Check.gymWith(1, 99, 30, 25);
        Sentence.due("the shortest one at rest", Check.card(gym, 0), "0:1cm rest");
        gym.pass(12);
        gym.push(3, 40);
        gym.push(0, 1);
        Sentence.due("the document's own", Check.card(gym, 3), "3:25cm 40@12*");
        Sentence.due("in place of a longer one", Check.card(gym, 0), "0:1cm 1@12");
        Sentence.due("the rest of the longer one", Check.outcome(() -> gym.cardAt(10)), "throws IndexOutOfBoundsException");
        for (int round = 0; round < 200; round++) {
            gym.pass(500);
        }
        gym.push(1, 60);
        Sentence.due("a late one", Check.card(gym, 1), "1:99cm 60@100012*");
    }

    private static void lengthsOfCards() {
        PendulumGym gym = Check.gymWith(1, 99);
        Sentence.due("writeCard(0) at rest", gym.writeCard(0), 10);
        gym.push(1, 60);
        Sentence.due("writeCard(1)", gym.writeCard(1), 12);
        gym.push(0, 1);
        Sentence.due("writeCard(0) with one degree", gym.writeCard(0), 10);
        gym.catchPendulum(0);
        Sentence.due("writeCard(0) with its star", gym.writeCard(0), 11);
    }

    private static void emptyCard() {
        for (int index : new int[] {0, 1, -1, Integer.MIN_VALUE, Integer.MAX_VALUE}) {
            Sentence.refused("cardAt(" + index + ") of a new object", Sentence.INDEX, PendulumGym::new,
                gym -> gym.cardAt(index));
            Sentence.refused("cardAt(" + index + ") before any card", Sentence.INDEX, Gyms::quiet,
                gym -> gym.cardAt(index));
        }
    }

    private static void firstAndLastCharacter() {
        PendulumGym gym = Gyms.busy();
        // The card is "0:4cm 40@2*" with the 36 degrees that are left.
        Sentence.due("cardAt(0)", gym.cardAt(0), '0');
        Sentence.due("cardAt(10), the last one", gym.cardAt(10), '*');
        Sentence.due("the whole card", Check.written(gym, 11), "0:4cm 36@2*");
        Sentence.changesNothing("cardAt(0)", Gyms::busy, asked -> asked.cardAt(0));
    }

    private static void noSuchCharacter() {
        for (int index : new int[] {11, 12, 16, 60, -1, Integer.MIN_VALUE, Integer.MAX_VALUE}) {
            Sentence.refused("cardAt(" + index + ")", Sentence.INDEX, Gyms::busy, gym -> gym.cardAt(index));
        }
        Supplier<PendulumGym> shorter = () -> {
            PendulumGym gym = Gyms.busy();
            gym.writeCard(3);
            gym.writeCard(2);
            return gym;
        };
        // "3:99cm 60@14*" and then "2:30cm rest"
        Sentence.refused("cardAt(11) behind a shorter card", Sentence.INDEX, shorter, gym -> gym.cardAt(11));
        Sentence.due("cardAt(10) of the shorter card", shorter.get().cardAt(10), 't');
    }

    private static void countOfCharacters() {
        PendulumGym gym = new PendulumGym();
        Sentence.due("the first one", gym.type(' '), 1);
        Sentence.due("the second one", gym.type('~'), 2);
        Check.outcome(() -> gym.type((char) 127));
        Sentence.due("the third one, behind a refused one", gym.type(' '), 3);
        Check.outcome(gym::execute);
        Sentence.due("the first one again", gym.type('a'), 1);
        Sentence.due("the last one", Check.outcome(() -> typedUpTo(59).type('a')), "60");
    }

    private static PendulumGym typedUpTo(int characters) {
        PendulumGym gym = new PendulumGym();
        Check.type(gym, Gyms.LONGEST.substring(0, characters));
        return gym;
    }

    private static void charactersOutside() {
        for (char sign : new char[] {31, 127, 0, 1, '\n', '\t', 128, 160, 233, 255, 256, 288, 0x20AC, 0xFFFF}) {
            Sentence.refused("type(" + (int) sign + ")", Sentence.ARGUMENT, Gyms::busy, gym -> gym.type(sign));
            Sentence.refused("type(" + (int) sign + ") into a new one", Sentence.ARGUMENT, PendulumGym::new,
                gym -> gym.type(sign));
        }
        for (char sign : new char[] {32, 33, 125, 126}) {
            Sentence.due("type(" + (int) sign + ")", new PendulumGym().type(sign), 1);
        }
    }

    private static void characterTooMany() {
        for (char sign : new char[] {32, '0', ';', 126}) {
            Sentence.refused("type(" + (int) sign + ")", Sentence.STATE, Gyms::full, gym -> gym.type(sign));
        }
        Sentence.due("the 60th", typedUpTo(59).type('5'), 60);
    }

    private static void allOrNone() {
        PendulumGym gym = Gyms.ready();
        Sentence.due("all", Check.run(gym, "hang 1;push 4 60;tick 6;cut 2;leg 1"), "5");
        Sentence.due("the last command", gym.wishOf(2), 1);
        Sentence.due("the first commands", gym.amplitudeOf(4), 54);
        Sentence.due("the buffer behind all", gym.type('a'), 1);
        Sentence.failing("hang 1;push 4 60;tick 6;cut 2;leg 0", 4, Gyms::ready);
        Sentence.failing("push 2 60;push 2 1", 1, Gyms::ready);
        Sentence.failing("leg 1;leg 1;leg 1;leg 1", 3, Gyms::ready);
        Sentence.failing("hang 1;hang 1;hang 1;hang 1;hang 1", 4, Gyms::ready);
        Sentence.malformed("hang 1;push 4 60;tick 6;cut 2;leg", 33, Gyms::ready);
    }

    private static void countsOfCommands() {
        Sentence.due("the least", Check.run(Gyms.ready(), "tick 1"), "1");
        Sentence.due("the most", Check.run(new PendulumGym(), "leg 1;cut 0;leg 2;cut 0;leg 3;cut 0;leg 4;cut 0;leg 5;cut 0"),
            "10");
        PendulumGym gym = Gyms.ready();
        Check.run(gym, "tick 1;tick 1;tick 1");
        Sentence.due("fewer than before", Check.run(gym, "tick 1"), "1");
        Sentence.due("clock()", gym.clock(), 18);
    }

    private static void malformedPrograms() {
        Sentence.malformed("", 0, Gyms::ready);
        Sentence.malformed("", 0, Gyms::quiet);
        Sentence.malformed("", 0, PendulumGym::new);
        Sentence.malformed("tick 1;tick", 11, Gyms::ready);
        Sentence.malformed("Tick 1", 0, Gyms::ready);
        // Malformed is told first, although the first command would fail.
        Sentence.malformed("tick 0;tick", 11, Gyms::ready);
        Sentence.malformed("push 9 1;x", 9, Gyms::quiet);
        PendulumGym gym = Gyms.ready();
        Check.run(gym, "x");
        Sentence.due("a program behind a malformed one", Check.run(gym, "tick 1"), "1");
    }

    private static void failingCommands() {
        String[] failing = {"hang 0", "hang 100", "push 4 1", "push 9 1", "push 2 0", "push 2 61", "push 0 25", "push 3 1",
            "catch 4", "catch 2", "friction 31", "friction 999", "leg 0", "leg 61", "cut 3", "cut 9", "tick 0", "tick 501"};
        for (String command : failing) {
            Sentence.failing(command, 0, Gyms::ready);
            Sentence.failing("tick 1;" + command + ";tick 1", 1, Gyms::ready);
        }
        String[] passing = {"hang 1", "hang 99", "push 2 1", "push 2 60", "push 0 24", "catch 3", "friction 0",
            "friction 30", "leg 1", "leg 60", "cut 0", "cut 2", "tick 1", "tick 500"};
        for (String command : passing) {
            Sentence.due("execute() of '" + command + "'", Check.run(Gyms.ready(), command), "1");
        }
        Sentence.failing("hang 1", 0, ProgramBoundaries::fullWithoutText);
        Sentence.failing("leg 1", 0, ProgramBoundaries::fullWithoutText);
        Sentence.failing("push 0 1", 0, ProgramBoundaries::fullWithoutText);
        Sentence.failing("cut 0", 0, PendulumGym::new);
        Sentence.failing("hang 5;push 1 5", 1, PendulumGym::new);
    }

    private static PendulumGym fullWithoutText() {
        PendulumGym gym = Check.withLegs(Check.gymWith(1, 1, 1, 1, 1, 1, 1, 1), 1, 1, 1, 1, 1, 1);
        gym.push(0, 60);
        return gym;
    }

    private static void lastPosition() {
        PendulumGym gym = Gyms.ready();
        Sentence.due("of the first one", gym.errorPosition(), 4);
        Check.run(gym, "hang 1;x");
        Sentence.due("of the second one", gym.errorPosition(), 7);
        Check.run(gym, "tick 1");
        Check.run(gym, "tick 1;tick 0");
        Sentence.due("behind programs that are not malformed", gym.errorPosition(), 7);
        Check.run(gym, "");
        Sentence.due("of an empty one", gym.errorPosition(), 0);
    }

    private static void noPositionYet() {
        Sentence.refused("errorPosition() of a new object", Sentence.MISSING, PendulumGym::new,
            PendulumGym::errorPosition);
        Supplier<PendulumGym> other = () -> {
            PendulumGym gym = Gyms.quiet();
            Check.run(gym, "tick 1;tick 0");
            Check.run(gym, "tick 1");
            Check.type(gym, "x");
            return gym;
        };
        Sentence.refused("errorPosition() behind other programs", Sentence.MISSING, other, PendulumGym::errorPosition);
        PendulumGym gym = other.get();
        Check.outcome(gym::execute);
        Sentence.due("errorPosition() of the first one, in its first character", gym.errorPosition(), 0);
    }

    private static void lastFailure() {
        PendulumGym gym = Gyms.ready();
        Sentence.due("of the first one", gym.failedCommand(), 1);
        Check.run(gym, "tick 1;tick 1;tick 0");
        Sentence.due("of the second one", gym.failedCommand(), 2);
        Check.run(gym, "tick 1");
        Check.run(gym, "tick 1;tick");
        Sentence.due("behind programs without a failing command", gym.failedCommand(), 2);
        Check.outcome(() -> gym.pass(0));
        Sentence.due("behind a refused call", gym.failedCommand(), 2);
        Check.run(gym, "tick 0");
        Sentence.due("of a third one", gym.failedCommand(), 0);
    }

    private static void failuresFromZero() {
        for (int index = 0; index < 9; index++) {
            StringBuilder text = new StringBuilder();
            for (int command = 0; command < index; command++) {
                text.append("leg 1;cut 0;".substring(command % 2 == 0 ? 0 : 6, command % 2 == 0 ? 6 : 12));
            }
            PendulumGym gym = new PendulumGym();
            Check.run(gym, text + "cut 9");
            Sentence.due("failedCommand() of '" + text + "cut 9'", gym.failedCommand(), index);
            Sentence.due("legCount()", gym.legCount(), 0);
        }
    }

    private static void noFailureYet() {
        Sentence.refused("failedCommand() of a new object", Sentence.MISSING, PendulumGym::new,
            PendulumGym::failedCommand);
        Supplier<PendulumGym> other = () -> {
            PendulumGym gym = Gyms.quiet();
            Check.run(gym, "tick 0;x");
            Check.run(gym, "tick 1");
            Check.outcome(() -> gym.pass(0));
            Check.type(gym, "tick 0");
            return gym;
        };
        Sentence.refused("failedCommand() behind other programs", Sentence.MISSING, other, PendulumGym::failedCommand);
        PendulumGym gym = other.get();
        Check.outcome(gym::execute);
        Sentence.due("failedCommand() of the first one", gym.failedCommand(), 0);
    }
}
