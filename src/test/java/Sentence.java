import java.nio.charset.StandardCharsets;
import java.nio.file.Files;
import java.nio.file.Path;
import java.util.ArrayList;
import java.util.Arrays;
import java.util.List;
import java.util.NoSuchElementException;
import java.util.function.BiFunction;
import java.util.function.Function;
import java.util.function.Supplier;
import java.util.regex.Matcher;
import java.util.regex.Pattern;

/** The sentences of the document that name a boundary case, each quoted ahead of the test that it has for itself. */
final class Sentence {
    /** The number of the sentences that stand ahead of the promises. */
    static final int TERMS = 0;
    static final Class<IndexOutOfBoundsException> INDEX = IndexOutOfBoundsException.class;
    static final Class<IllegalArgumentException> ARGUMENT = IllegalArgumentException.class;
    static final Class<IllegalStateException> STATE = IllegalStateException.class;
    static final Class<NoSuchElementException> MISSING = NoSuchElementException.class;

    private static final Path DOCUMENT = Path.of("../shared/DOC.md");
    private static final Pattern BOUNDARY = Pattern.compile("\\d|^Throws |\\b(at most|at least|at first|first|last|"
        + "greatest|least|less|more|never|nothing|none|empty|empties|same|still|kept|replaces|rest|divisible|affected)\\b");

    private static final List<String> quoted = new ArrayList<>();
    private static int promise = TERMS;
    private static String sentence = "";

    private Sentence() {
    }

    /** The sentence of the promise, word by word, and the test that fails if the program breaks it. */
    static void holds(int ofPromise, String words, Runnable test) {
        promise = ofPromise;
        sentence = words;
        int before = Check.looked();
        test.run();
        due("the number of answers", Check.looked() > before, true);
        quoted.add(promise + " " + sentence);
    }

    static void due(String what, Object got, Object want) {
        Check.due(promise, "'" + sentence + "': " + what, got, want);
    }

    /** The call is refused with this exception, and every question is answered as if it had not been made. */
    static void refused(String what, Class<? extends RuntimeException> want, Supplier<PendulumGym> gyms,
            Function<PendulumGym, Object> call) {
        for (Questions questions : Questions.values()) {
            PendulumGym asked = gyms.get();
            due(what, Check.outcome(() -> call.apply(asked)), "throws " + want.getSimpleName());
            compare(what, questions, asked, gyms.get());
        }
    }

    /** The call is refused for a number below the least one, above the greatest one, and far out. */
    static void refusedOutside(String call, int least, int most, Supplier<PendulumGym> gyms,
            BiFunction<PendulumGym, Integer, Object> with) {
        for (int number : outside(least, most)) {
            refused(call + "(" + number + ")", ARGUMENT, gyms, gym -> with.apply(gym, number));
        }
    }

    /** The call is refused for the number behind the last pendulum, for the first one of none, and far out. */
    static void noSuchPendulum(String call, BiFunction<PendulumGym, Integer, Object> with) {
        for (int number : new int[] {4, 7, 8, -1, Integer.MIN_VALUE, Integer.MAX_VALUE}) {
            refused(call + "(" + number + ") of four", INDEX, Gyms::busy, gym -> with.apply(gym, number));
        }
        for (int number : new int[] {8, -1, Integer.MIN_VALUE, Integer.MAX_VALUE}) {
            refused(call + "(" + number + ") of eight", INDEX, Gyms::full, gym -> with.apply(gym, number));
        }
        refused(call + "(1) of one", INDEX, Gyms::quiet, gym -> with.apply(gym, 1));
        refused(call + "(0) of none", INDEX, PendulumGym::new, gym -> with.apply(gym, 0));
        for (int number : new int[] {0, 3}) {
            String outcome = Check.outcome(() -> with.apply(Gyms.busy(), number));
            due(call + "(" + number + ") of four is there", outcome.contains("IndexOutOfBounds"), false);
        }
        due(call + "(7) of eight is there",
            Check.outcome(() -> with.apply(Gyms.full(), 7)).contains("IndexOutOfBounds"), false);
    }

    static int[] outside(int least, int most) {
        return new int[] {least - 1, most + 1, -most, Integer.MIN_VALUE, Integer.MAX_VALUE};
    }

    /** The call is answered, and every question is answered as if it had not been made. */
    static void changesNothing(String what, Supplier<PendulumGym> gyms, Function<PendulumGym, Object> call) {
        for (Questions questions : Questions.values()) {
            PendulumGym asked = gyms.get();
            due(what + " is answered", Check.outcome(() -> call.apply(asked)).startsWith("throws"), false);
            compare(what, questions, asked, gyms.get());
        }
    }

    /** As changesNothing, but for the snapshot. */
    static void changesNothingButTheSnapshot(String what, Supplier<PendulumGym> gyms, Function<PendulumGym, Object> call) {
        for (Questions questions : Questions.values()) {
            if (questions != Questions.RESTORED) {
                PendulumGym asked = gyms.get();
                call.apply(asked);
                compare(what, questions, asked, gyms.get());
            }
        }
    }

    /** The program is malformed: it leaves an error position and an empty buffer, and changes nothing else. */
    static void malformed(String text, int position, Supplier<PendulumGym> gyms) {
        refusedProgram(text, "throws IllegalArgumentException", Questions.ERROR, gyms);
        PendulumGym gym = gyms.get();
        Check.run(gym, text);
        due("errorPosition() of '" + text + "'", gym.errorPosition(), position);
    }

    /** The program fails: it leaves the command's index and an empty buffer, and changes nothing else. */
    static void failing(String text, int command, Supplier<PendulumGym> gyms) {
        refusedProgram(text, "throws IllegalStateException", Questions.FAILURE, gyms);
        PendulumGym gym = gyms.get();
        Check.run(gym, text);
        due("failedCommand() of '" + text + "'", gym.failedCommand(), command);
    }

    // The gymnasiums come with an empty buffer, as the refused program leaves it.
    private static void refusedProgram(String text, String want, Questions changed, Supplier<PendulumGym> gyms) {
        for (Questions questions : Questions.values()) {
            PendulumGym asked = gyms.get();
            due("execute() of '" + text + "'", Check.run(asked, text), want);
            if (questions != changed) {
                compare("execute() of '" + text + "'", questions, asked, gyms.get());
            }
        }
    }

    private static void compare(String what, Questions questions, PendulumGym asked, PendulumGym untouched) {
        List<String> got = questions.ask(asked);
        List<String> want = questions.ask(untouched);
        due("the number of questions behind " + what, got.size(), want.size());
        for (int index = 0; index < Math.min(got.size(), want.size()); index++) {
            if (!got.get(index).equals(want.get(index))) {
                due("behind " + what, got.get(index), want.get(index));
                return;
            }
        }
    }

    /** Each quoted sentence stands in the document, and each sentence there that names a boundary is quoted. */
    static void lookIntoTheDocument() throws Exception {
        if (!Files.exists(DOCUMENT)) {
            System.out.println("no " + DOCUMENT + ": the quoted sentences are not looked up");
            return;
        }
        List<String> written = writtenSentences(Files.readString(DOCUMENT, StandardCharsets.UTF_8));
        for (String quote : quoted) {
            boolean stands = written.stream().anyMatch(line -> isQuoted(line, quote));
            Check.due(number(quote), "the document's words '" + quote + "'", stands, true);
        }
        for (String line : written) {
            if (BOUNDARY.matcher(words(line)).find()) {
                boolean isTested = quoted.stream().anyMatch(quote -> isQuoted(line, quote));
                Check.due(number(line), "the test of the sentence '" + line + "'", isTested, true);
            }
        }
    }

    private static boolean isQuoted(String line, String quote) {
        return number(line) == number(quote) && words(line).contains(words(quote));
    }

    private static int number(String line) {
        return Integer.parseInt(line.substring(0, line.indexOf(' ')));
    }

    private static String words(String line) {
        return line.substring(line.indexOf(' ') + 1);
    }

    /** The sentences of the terms and the lines of the promises, without their signatures, each behind its number. */
    private static List<String> writtenSentences(String document) {
        List<String> written = new ArrayList<>();
        String terms = document.substring(0, document.indexOf("\n```java"))
            + document.substring(document.indexOf("\n## Terms\n"), document.indexOf("\n## Promise 1:"));
        for (String paragraph : terms.split("\n")) {
            if (!paragraph.startsWith("Ahead of ")) {
                Arrays.stream(paragraph.split("(?<=\\.) ")).forEach(words -> written.add(TERMS + " " + words));
            }
        }
        Matcher promises = Pattern.compile("(?s)\n## Promise (\\d+): [^\n]*\n(.*?)(?=\n## )").matcher(document);
        while (promises.find()) {
            for (String line : promises.group(2).replaceAll("(?m)^`[^`]*`: ", "").split("\n")) {
                written.add(promises.group(1) + " " + line);
            }
        }
        return written;
    }
}
