import java.io.IOException;
import java.lang.management.ManagementFactory;
import java.lang.reflect.Method;
import java.nio.file.Files;
import java.nio.file.Path;
import java.util.ArrayList;
import java.util.Arrays;
import java.util.List;
import java.util.Map;
import java.util.Set;
import java.util.TreeSet;
import java.util.regex.Matcher;
import java.util.regex.Pattern;
import java.util.stream.Collectors;
import java.util.stream.Stream;

/** README.md: its example, its calls and limits, its commands and its list of tests hold. It is read where we stand. */
final class ReadmeTest {
    private static final String CLASS_FILE = "src/main/java/MashEnzymes.java";
    // Arguments with which each call of the limits is taken, on a mash of which one decoction is out.
    private static final Map<String, Object[]> TAKEN = Map.of(
        "grain", new Object[] {1.0, 0.5, 0}, "liquor", new Object[] {1.0, 50.0, 5.5},
        "enzyme", new Object[] {0, 1.0}, "step", new Object[] {1, 50.0}, "run", new Object[] {0},
        "sugar", new Object[] {0}, "enzymeLeft", new Object[] {0}, "take", new Object[] {0.5},
        "back", new Object[] {0, 50.0});

    private final Check check = new Check();
    private final String readme;

    private ReadmeTest() throws IOException {
        readme = Files.readString(Path.of("README.md"));
    }

    public static void main(String[] args) throws Exception {
        ReadmeTest test = new ReadmeTest();
        test.theExampleAnswersWhatIsSaid();
        test.theCallsAreThoseOfTheFace();
        test.allLimitsAreSaid();
        test.theLimitsHold();
        test.theConstantsAreAsSaid();
        test.noCallMakesAnObject();
        test.oneTestIsRunAlone();
        test.theScriptIsThere();
        test.allTestsAreListed();
        test.allPromisesHaveTests();
        test.check.end();
    }

    // The commands and the example are README's own words, and so is what is due.
    private void theExampleAnswersWhatIsSaid() throws Exception {
        try (TempProject project = new TempProject()) {
            project.copy(CLASS_FILE);
            project.write("Example.java", blocks("java").get(0));
            TempProject.Ended ended = project.run(blocks("sh").get(0));
            check.is("the example's exit code", ended.exitCode(), 0);
            same("the example", ended.printed(), blocks("text").get(0));
        }
    }

    private void theCallsAreThoseOfTheFace() {
        Set<String> said = new TreeSet<>(Set.of("int NONE", "int FULL"));
        for (List<String> row : table("call", "what it does or answers")) {
            said.add(plain(row.get(0)).replaceAll(" [a-zA-Z]+(?=[,)])", "").replace(", ", ","));
        }
        same("the calls", said.toString(), FaceTest.members().toString());
    }

    /** Every number that a call takes is among the limits, but for decoctions, which have none of their own. */
    private void allLimitsAreSaid() {
        Set<String> due = new TreeSet<>();
        for (List<String> row : table("call", "what it does or answers")) {
            String call = plain(row.get(0));
            for (String argument : names(call)) {
                due.add(nameOf(call) + " " + argument);
            }
        }
        due.remove("back decoction");
        Set<String> said = new TreeSet<>();
        for (List<String> row : limits()) {
            said.add(plain(row.get(0)) + " " + plain(row.get(1)));
        }
        same("the limits", said.toString(), due.toString());
    }

    // The last value taken and the first refused, at both ends of each limit.
    private void theLimitsHold() throws ReflectiveOperationException {
        for (List<String> row : limits()) {
            String name = plain(row.get(0));
            int place = placeOf(name, plain(row.get(1)));
            Object refused = refusedAnswer(name, plain(row.get(4)));
            Object[] least = ends(row.get(2), TAKEN.get(name)[place], 1);
            Object[] most = ends(row.get(3), TAKEN.get(name)[place], -1);
            for (Object[] end : new Object[][] {least, most}) {
                isRefused(name, place, end[0], refused, false);
                isRefused(name, place, end[1], refused, true);
            }
            if (TAKEN.get(name)[place] instanceof Double) {
                isRefused(name, place, Double.NaN, refused, true);
            }
        }
    }

    private void isRefused(String name, int place, Object value, Object answer, boolean due)
            throws ReflectiveOperationException {
        Object[] arguments = TAKEN.get(name).clone();
        arguments[place] = value;
        MashEnzymes mash = new MashEnzymes();
        States.mash(mash);
        mash.take(0.25);
        Object got = methodOf(name).invoke(mash, arguments);
        check.is(name + Arrays.toString(arguments) + " is refused", got.equals(answer), due);
    }

    /** The value at an end of a limit that is still taken, and the one that is not; inside lies up (1) or down (-1). */
    private static Object[] ends(String limit, Object sample, int inside) {
        boolean isOpen = limit.startsWith("above ") || limit.startsWith("below ");
        String number = limit.replaceAll("above |below |,", "").replace("now", "0");
        if (sample instanceof Integer) {
            int at = Integer.parseInt(number);
            return isOpen ? new Object[] {at + inside, at} : new Object[] {at, at - inside};
        }
        double at = Double.parseDouble(number);
        return isOpen ? new Object[] {next(at, inside), at} : new Object[] {at, next(at, -inside)};
    }

    private static double next(double from, int way) {
        return way > 0 ? Math.nextUp(from) : Math.nextDown(from);
    }

    private static Object refusedAnswer(String name, String said) {
        Class<?> type = methodOf(name).getReturnType();
        if (type == boolean.class) {
            return Boolean.valueOf(said);
        }
        return type == int.class ? (Object) (said.equals("NONE") ? MashEnzymes.NONE : 0) : Double.valueOf(said);
    }

    private void theConstantsAreAsSaid() {
        Map<String, Integer> due = Map.of("NONE", MashEnzymes.NONE, "FULL", MashEnzymes.FULL);
        due.forEach((name, value) -> check.is("README says " + name + " and its value",
            readme.contains("`MashEnzymes." + name + "` (" + value + ")"), true));
    }

    // The first rounds load what the calls need, so the least of all rounds is what the calls themselves make.
    private void noCallMakesAnObject() {
        if (!(ManagementFactory.getThreadMXBean() instanceof com.sun.management.ThreadMXBean threads)) {
            return;
        }
        long thread = Thread.currentThread().getId();
        long least = Long.MAX_VALUE;
        for (int round = 0; round < 5; round++) {
            MashEnzymes mash = new MashEnzymes();
            long before = threads.getThreadAllocatedBytes(thread);
            allCalls(mash);
            least = Math.min(least, threads.getThreadAllocatedBytes(thread) - before);
        }
        check.is("bytes made by calls", least, 0);
    }

    private static void allCalls(MashEnzymes mash) {
        States.mash(mash);
        for (int i = 0; i < 12; i++) {
            mash.grain(1, 0.5, 2);
            mash.liquor(1, 60, 5.5);
            mash.enzyme(i, 1);
            mash.step(i * 50, 40 + i * 5);
            mash.run(20 + i);
            mash.take(0.125);
            mash.back(i / 2, 90);
            mash.sugar(i);
            mash.enzymeLeft(i);
            mash.degrees();
            mash.starch();
            mash.water();
            mash.converted();
        }
    }

    // With the class as it is, and with a class that keeps one step too few.
    private void oneTestIsRunAlone() throws Exception {
        String commands = blocks("sh").get(2);
        try (TempProject project = new TempProject()) {
            project.copy("src");
            TempProject.Ended passed = project.run(commands);
            check.is("exit code of one test alone", passed.exitCode(), 0);
            same("one test alone", passed.printed(), "");
            project.replace(CLASS_FILE, "MOST_STEPS = 32", "MOST_STEPS = 31");
            TempProject.Ended failed = project.run(commands);
            check.is("exit code of one test that fails", failed.exitCode(), 1);
            check.is("the wrong answer is printed", failed.printed().contains("step 32 answered false"), true);
        }
    }

    private void theScriptIsThere() {
        String script = blocks("sh").get(1).strip();
        check.is(script + " can be run", Files.isExecutable(Path.of(script)), true);
        check.is(script + " is the script that RunScriptTest runs", script.equals(RunScriptTest.SCRIPT), true);
    }

    private void allTestsAreListed() throws IOException {
        Set<String> there = new TreeSet<>();
        try (Stream<Path> files = Files.list(Path.of("src/test/java"))) {
            files.map(file -> file.getFileName().toString()).filter(name -> name.endsWith("Test.java"))
                .forEach(name -> there.add(name.replace(".java", "")));
        }
        Set<String> listed = new TreeSet<>();
        tests().forEach(row -> listed.add(row.get(0)));
        same("the tests", listed.toString(), there.toString());
    }

    private void allPromisesHaveTests() {
        Set<Integer> promises = new TreeSet<>();
        for (List<String> row : tests()) {
            Matcher number = Pattern.compile("[0-9]+").matcher(row.get(1));
            while (number.find()) {
                promises.add(Integer.parseInt(number.group()));
            }
        }
        check.is("promises 1 to 14 have tests: " + promises, promises.size() == 14 && promises.contains(14), true);
    }

    private List<List<String>> limits() {
        return table("call", "argument");
    }

    private List<List<String>> tests() {
        return table("test", "promises");
    }

    private int placeOf(String name, String argument) {
        for (List<String> row : table("call", "what it does or answers")) {
            String call = plain(row.get(0));
            if (nameOf(call).equals(name)) {
                return names(call).indexOf(argument);
            }
        }
        return -1;
    }

    private static String nameOf(String call) {
        return call.replaceAll("\\(.*", "").replaceAll(".* ", "");
    }

    /** The names of a call's arguments. */
    private static List<String> names(String call) {
        List<String> names = new ArrayList<>();
        Matcher argument = Pattern.compile("([a-zA-Z]+)[,)]").matcher(call);
        while (argument.find()) {
            names.add(argument.group(1));
        }
        return names;
    }

    private static Method methodOf(String name) {
        for (Method method : MashEnzymes.class.getMethods()) {
            if (method.getName().equals(name)) {
                return method;
            }
        }
        throw new IllegalStateException("README.md names a call that is not there: " + name);
    }

    /** The blocks of README.md that are marked so, in their order. */
    private List<String> blocks(String mark) {
        Matcher block = Pattern.compile("(?sm)^```" + mark + "\n(.*?)^```$").matcher(readme);
        List<String> blocks = new ArrayList<>();
        while (block.find()) {
            blocks.add(block.group(1));
        }
        return blocks;
    }

    /** The rows of the table that begins with these two heads. */
    private List<List<String>> table(String first, String second) {
        int start = readme.indexOf("| " + first + " | " + second + " |");
        if (start < 0) {
            throw new IllegalStateException("README.md has no table of " + first + " and " + second);
        }
        return readme.substring(start).lines().takeWhile(line -> line.startsWith("|")).skip(2)
            .map(ReadmeTest::cells).collect(Collectors.toList());
    }

    private static List<String> cells(String line) {
        List<String> cells = new ArrayList<>();
        for (String cell : line.substring(1).split("\\|")) {
            cells.add(cell.strip());
        }
        return cells;
    }

    private static String plain(String cell) {
        return cell.replace("`", "");
    }

    private void same(String name, String got, String due) {
        check.is(name + ": \"" + got + "\" is \"" + due + "\"", got.equals(due), true);
    }
}
