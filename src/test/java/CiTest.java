import java.io.IOException;
import java.nio.file.Files;
import java.nio.file.Path;
import java.util.Comparator;
import java.util.List;
import java.util.stream.Collectors;
import java.util.stream.Stream;

/** What README.md says of .ci/run, tried in small projects; and that each promise has a test of its own. */
public final class CiTest {
    private static final Check CHECK = new Check("CiTest");

    private static final String CLASS = "src/main/java/LongerHalf.java";
    private static final String OWN = "src/test/java/OwnTest.java";
    private static final String OTHER = "src/test/java/ZLastTest.java";
    private static final String SHARED = "../shared/tests/Runs.java";

    private static final String GOOD = "{ new LongerHalf(); }";
    private static final String ENDS_BADLY = "{ System.exit(1); }";
    private static final String THROWS = "{ throw new IllegalStateException(); }";
    private static final String IS_NO_JAVA = "{ nothing }";

    public static void main(String[] args) throws IOException, InterruptedException {
        eachPromiseHasATest();

        // all begin at once, as each spends its time in waiting for javac
        Project good = new Project().begin();
        Project ownFails = new Project().main(OWN, ENDS_BADLY).begin();
        Project ownThrows = new Project().main(OWN, THROWS).begin();
        Project sharedFails = new Project().main(SHARED, ENDS_BADLY).begin();
        Project classIsNone = new Project().write(CLASS, "public final class LongerHalf {").begin();
        Project classWarns = new Project().write(CLASS, "public final class LongerHalf {"
                + " static java.util.List<Integer> raw() { return new java.util.ArrayList(); } }").begin();
        Project ownIsNone = new Project().main(OWN, IS_NO_JAVA).begin();
        Project sharedIsNone = new Project().main(SHARED, IS_NO_JAVA).begin();
        Project noShared = new Project().without(SHARED).begin();

        good.ends("all is well", true, "ok OwnTest", "ok ZLastTest", "ok shared Runs", "3 passed, 0 failed");
        ownFails.ends("a test fails", false, "FAILED OwnTest", "ok ZLastTest", "ok shared Runs", "2 passed, 1 failed");
        ownThrows.ends("a test throws", false, "FAILED OwnTest", "ok shared Runs");
        sharedFails.ends("a shared test fails", false, "ok OwnTest", "FAILED shared Runs", "2 passed, 1 failed");
        classIsNone.ends("the class doesn't compile", false, "FAILED");
        classWarns.ends("the class has a warning", false, "FAILED");
        ownIsNone.ends("a test doesn't compile", false, "FAILED");
        sharedIsNone.ends("a shared test doesn't compile", false, "FAILED shared Runs");
        noShared.ends("no shared test", false, "FAILED");
        CHECK.end();
    }

    private static void eachPromiseHasATest() throws IOException {
        String page = Files.readString(Path.of("../shared/DOC.md"));
        int promises = 0;
        while (page.contains("\n## Promise " + (promises + 1) + ":")) {
            promises++;
            Path test = Path.of(String.format("src/test/java/Promise%02dTest.java", promises));
            CHECK.due(test + " is there", Files.exists(test), true);
        }
        CHECK.due("promises", promises, 45);
    }

    /** A project of one class, two tests and a shared one, with the .ci/run of this one. */
    private static final class Project {
        private final Path folder;
        private final Path home;
        private Process script;

        Project() throws IOException {
            folder = Files.createTempDirectory("ci");
            home = folder.resolve("project");
            Files.createDirectories(home.resolve(".ci"));
            Files.copy(Path.of(".ci/run"), home.resolve(".ci/run"));
            write(CLASS, "public final class LongerHalf { }");
            main(OWN, GOOD);
            main(OTHER, GOOD);
            main(SHARED, GOOD);
        }

        Project write(String name, String text) throws IOException {
            Path file = home.resolve(name).normalize();
            Files.createDirectories(file.getParent());
            Files.writeString(file, text);
            return this;
        }

        Project main(String name, String body) throws IOException {
            String called = Path.of(name).getFileName().toString().replace(".java", "");
            return write(name, "public final class " + called + " { public static void main(String[] args) " + body + " }");
        }

        Project without(String name) throws IOException {
            Files.delete(home.resolve(name).normalize());
            return this;
        }

        /** From another directory than its own. */
        Project begin() throws IOException {
            script = new ProcessBuilder("bash", home.resolve(".ci/run").toString()).directory(folder.toFile())
                    .redirectErrorStream(true).redirectOutput(folder.resolve("printed").toFile()).start();
            return this;
        }

        void ends(String what, boolean well, String... printed) throws IOException, InterruptedException {
            int code = script.waitFor();
            CHECK.due("exit code " + code + " if " + what, code == 0, well);
            List<String> lines = Files.readAllLines(folder.resolve("printed"));
            for (String text : printed) {
                boolean found = lines.stream().anyMatch(line -> line.replaceAll(" +", " ").startsWith(text));
                CHECK.due("'" + text + "' is printed if " + what + ": " + lines, found, true);
            }
            remove();
        }

        private void remove() throws IOException {
            List<Path> all;
            try (Stream<Path> files = Files.walk(folder)) {
                all = files.sorted(Comparator.reverseOrder()).collect(Collectors.toList());
            }
            for (Path file : all) {
                Files.delete(file);
            }
        }
    }
}
