import java.io.IOException;
import java.lang.reflect.InvocationTargetException;
import java.lang.reflect.Method;
import java.nio.file.Files;
import java.nio.file.Path;
import java.util.ArrayList;
import java.util.Arrays;
import java.util.Comparator;
import java.util.List;

/**
 * Runs the tests of single sentences of the document, and looks that no sentence is without one.
 * A test is named by the place of its sentence: promise2_.. to promise27_.., section1_.. and so on.
 * With an argument it runs the tests alone whose names begin so, and tells their sentences.
 */
public final class BoundaryTests {
    private static final Class<?>[] TESTS = {
        BoundariesOfSections1To2.class, BoundariesOfSection3.class, BoundariesOfSection4.class,
        BoundariesOfSection5.class, BoundariesOfSection6.class, BoundariesOfPromises1To4.class,
        BoundariesOfPromises5To7.class, BoundariesOfPromises8To11.class,
        BoundariesOfPromises12To15.class, BoundariesOfPromises16To20.class,
        BoundariesOfPromises21To27.class,
    };

    /** FaceTests is about the public face; the others ask for nothing. */
    private static final List<String> PLACES_WITHOUT_TESTS =
            List.of("title", "ForeignKeyStore", "The public face", "Not promised");

    private static final List<String> SENTENCES_WITHOUT_TESTS = List.of(
            "A store of rows with foreign keys: immediate and deferred constraints, restricted "
                    + "deletions, cascades, references that are set to null, transactions and savepoints.",
            "All quantities are integers.",
            "Let y be this row.",
            "Ahead of the calls `define`, `drop`, `setMode` the interface says: ---- constraints.",
            "Ahead of the calls `insert`, `update`, `delete` the interface says: ---- statements.",
            "Ahead of the calls `commit`, `rollBack`, `savePoint`, `rollBackTo` the interface says: "
                    + "---- transactions.",
            "Ahead of the calls `appendText`, `clearText`, `errorPosition`, `runText` the interface "
                    + "says: ---- texts.",
            "Ahead of the calls `constraint`, `constraints`, `firstViolation` the interface says: "
                    + "---- queries about constraints.");

    /** A test method, the place of its sentence as Document names it, and the sentence. */
    private record Test(Method method, String place, String quote) {
        static Test of(Method method) {
            Sentence sentence = method.getAnnotation(Sentence.class);
            String name = method.getName();
            String place = name.substring(0, Math.max(0, name.indexOf('_')));
            return new Test(method, titleOf(place), sentence == null ? "" : sentence.value());
        }

        /** This place is named by its heading, which is no word of Java. */
        private static String titleOf(String place) {
            return place.equals("whatItIs") ? "What it is" : place;
        }
    }

    private static List<Test> allTests() {
        List<Test> tests = new ArrayList<>();
        for (Class<?> owner : TESTS) {
            Method[] methods = owner.getDeclaredMethods();
            Arrays.sort(methods, Comparator.comparing(Method::getName));
            for (Method method : methods) {
                Class<?>[] parameters = method.getParameterTypes();
                if (parameters.length == 1 && parameters[0] == Checks.class && !method.isSynthetic()) {
                    tests.add(Test.of(method));
                }
            }
        }
        return tests;
    }

    private static void run(Checks checks, Test test) throws IllegalAccessException {
        checks.about(test.method().getName() + " (\"" + test.quote() + "\")");
        int before = checks.done();
        try {
            test.method().invoke(null, checks);
        } catch (InvocationTargetException thrown) {
            checks.due("the test", thrown.getCause().toString(), "no exception outside of a check");
        }
        checks.due("the test with a check", checks.done() > before, true);
    }

    private static void checkQuotes(Checks checks, Document document, List<Test> tests) {
        checks.about("the sentences that tests name");
        for (Test test : tests) {
            long places = document.sentencesOf(test.place()).stream()
                    .filter(sentence -> sentence.contains(test.quote())).count();
            String call = test.method().getName() + ": \"" + test.quote() + "\"";
            checks.due(call, test.quote().isEmpty() ? -1L : places, 1L);
        }
    }

    private static void checkSentences(Checks checks, Document document, List<Test> tests) {
        checks.about("the sentences of the document");
        int without = 0;
        for (String place : document.places()) {
            for (String sentence : document.sentencesOf(place)) {
                boolean tested = tests.stream().anyMatch(
                        test -> test.place().equals(place) && sentence.contains(test.quote()));
                boolean excused = SENTENCES_WITHOUT_TESTS.contains(sentence);
                without += excused ? 1 : 0;
                if (!PLACES_WITHOUT_TESTS.contains(place)) {
                    checks.due(place + ": \"" + sentence + "\": a test", tested || excused, true);
                }
            }
        }
        checks.due("sentences without a test", without, SENTENCES_WITHOUT_TESTS.size());
        checks.due("places", document.places().size() > 30, true);
    }

    private static void runSome(Checks checks, List<Test> tests, String begin)
            throws IllegalAccessException {
        for (Test test : tests) {
            if (test.method().getName().startsWith(begin)) {
                System.out.println(test.method().getName() + ": \"" + test.quote() + "\"");
                run(checks, test);
            }
        }
        checks.due("a test that begins with " + begin, checks.done() > 0, true);
    }

    private static void runAll(Checks checks, List<Test> tests)
            throws IOException, IllegalAccessException {
        for (Test test : tests) {
            run(checks, test);
        }
        Path path = Path.of(System.getProperty("document", "../shared/DOC.md"));
        Document document = new Document(Files.readAllLines(path));
        checkQuotes(checks, document, tests);
        checkSentences(checks, document, tests);
        System.out.println(tests.size() + " tests of sentences");
    }

    public static void main(String[] args) throws IOException, IllegalAccessException {
        Checks checks = new Checks();
        if (args.length > 0) {
            runSome(checks, allTests(), args[0]);
        } else {
            runAll(checks, allTests());
        }
        checks.end("BoundaryTests");
    }
}
