/** .ci/run: it ends with 0 when the class compiles and all tests pass, and with 1 otherwise. */
final class RunScriptTest {
    static final String SCRIPT = ".ci/run";
    private static final String CLASS_FILE = "src/main/java/MashEnzymes.java";
    private static final String OWN_TEST = "src/test/java/OwnTest.java";
    private static final String SHARED_TEST = "../shared/tests/more/SharedRuns.java";
    // The script is looked at here, not the class: a small one compiles sooner.
    private static final String SMALL_CLASS = "public final class MashEnzymes {\n"
        + "  public int run(int seconds) { return -1; }\n"
        + "}\n";

    /** What is changed in a project in which all tests pass. */
    private interface Change {
        void of(TempProject project) throws Exception;
    }

    public static void main(String[] args) throws Exception {
        Check check = new Check();
        ends(check, "all tests pass", 0, "2 passed, 0 failed", project -> { });
        ends(check, "a test of the project fails", 1, "FAILED  OwnTest", project ->
            project.write(OWN_TEST, test("OwnTest", 7)));
        ends(check, "a shared test fails", 1, "FAILED  " + SHARED_TEST, project ->
            project.write(SHARED_TEST, test("SharedRuns", 7)));
        ends(check, "a shared test asks for a call that is not there", 1, "FAILED  " + SHARED_TEST, project ->
            project.replace(SHARED_TEST, "run(0)", "boil(0)"));
        ends(check, "there is no shared test", 1, "no test found", project -> project.delete(SHARED_TEST));
        ends(check, "a test of the project does not compile", 1, "error", project ->
            project.replace(OWN_TEST, "run(0)", "boil(0)"));
        ends(check, "the class does not compile", 1, "error", project ->
            project.replace(CLASS_FILE, "public int", "public it"));
        check.end();
    }

    private static void ends(Check check, String name, int exitCode, String printed, Change change) throws Exception {
        try (TempProject project = new TempProject()) {
            project.copy(SCRIPT);
            project.write(CLASS_FILE, SMALL_CLASS);
            project.write(OWN_TEST, test("OwnTest", -1));
            project.write(SHARED_TEST, test("SharedRuns", -1));
            change.of(project);
            // By bash, since a folder for temporary files may forbid programs of its own.
            TempProject.Ended ended = project.run("bash " + SCRIPT);
            check.is("exit code when " + name, ended.exitCode(), exitCode);
            check.is("printed when " + name + ": " + ended.printed(), ended.printed().contains(printed), true);
        }
    }

    /** A test in the form of those under ../shared/tests. */
    private static String test(String name, int due) {
        return "public final class " + name + " {\n"
            + "  public static void main(String[] args) {\n"
            + "    if (new MashEnzymes().run(0) != " + due + ") { System.out.println(\"wrong\"); System.exit(1); }\n"
            + "  }\n"
            + "}\n";
    }
}
