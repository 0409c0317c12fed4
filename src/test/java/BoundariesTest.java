import java.io.IOException;
import java.lang.reflect.InvocationTargetException;
import java.lang.reflect.Method;
import java.nio.file.Files;
import java.nio.file.Path;
import java.util.ArrayList;
import java.util.Comparator;
import java.util.List;

/**
 * Runs each test that names a sentence of the document, and holds the tests against the document: what a test quotes
 * must stand there, and each sentence with a boundary must be quoted by a test.
 */
public final class BoundariesTest {
    private static final List<Class<? extends BoundaryTests>> GROUPS = List.of(BoundariesOfTerms.class,
            BoundariesOfChanges.class, BoundariesOfExhibits.class, BoundariesOfCitations.class,
            BoundariesOfTexts.class, BoundariesOfLooks.class, BoundariesOfWouldBe.class);
    private static final String[] TERMS = {"Exhibits", "Changes of exhibits", "Input text", "Exceptions"};
    private static final Path DOCUMENT = Path.of("../shared/DOC.md");

    private final Check check = new Check("BoundariesTest");
    private final List<Sentence> quoted = new ArrayList<>();

    public static void main(String[] args) throws ReflectiveOperationException, IOException {
        BoundariesTest tests = new BoundariesTest();
        for (Class<? extends BoundaryTests> group : GROUPS) {
            tests.runGroup(group);
        }
        tests.check.under("BoundariesTest");
        if (Files.exists(DOCUMENT)) {
            tests.compareWith(Document.read(DOCUMENT));
        } else {
            System.out.println("BoundariesTest: there is no " + DOCUMENT + ", so the quotes are not looked up");
        }
        System.out.println("BoundariesTest: " + tests.quoted.size() + " sentences");
        tests.check.close();
    }

    private void runGroup(Class<? extends BoundaryTests> group) throws ReflectiveOperationException {
        List<Method> methods = new ArrayList<>(List.of(group.getDeclaredMethods()));
        methods.sort(Comparator.comparing(Method::getName));
        for (Method method : methods) {
            Sentence sentence = method.getAnnotation(Sentence.class);
            if (sentence != null) {
                quoted.add(sentence);
                check.under(method.getName() + " [" + sentence.of() + ": " + sentence.says() + "]");
                runTest(method, group.getDeclaredConstructor(Check.class).newInstance(check));
            }
        }
    }

    private void runTest(Method method, BoundaryTests tests) throws ReflectiveOperationException {
        int before = check.checks();
        String thrown = "nothing";
        try {
            method.invoke(tests);
        } catch (InvocationTargetException e) {
            thrown = e.getCause().toString();
        }
        check.dueText("what it throws", thrown, "nothing");
        check.due("whether it checks anything", check.checks() > before + 1 ? 1 : 0, 1);
    }

    private void compareWith(Document document) {
        for (Sentence sentence : quoted) {
            check.due("whether '" + sentence.says() + "' stands under " + sentence.of(),
                    document.holds(sentence.of(), sentence.says()) ? 1 : 0, 1);
        }
        for (String section : TERMS) {
            for (String sentence : document.sentencesOf(section)) {
                if (!sentence.contains("the interface says")) {
                    check.due("whether a test is for '" + sentence + "'", isQuoted(section, sentence) ? 1 : 0, 1);
                }
            }
        }
        for (int promise = 1; promise <= 27; promise++) {
            comparePromise(document, promise);
        }
    }

    private void comparePromise(Document document, int promise) {
        String section = "Promise " + promise;
        String first = document.firstLineOf(promise);
        check.due("whether there is " + section, first.isEmpty() ? 0 : 1, 1);
        for (String clause : document.clausesOf(promise)) {
            check.due("whether a test is for '" + clause + "' of " + section, isQuoted(section, clause) ? 1 : 0, 1);
        }
        if (first.endsWith("Undoable.")) {
            check.due("whether a test undoes " + section, isUndone(section) ? 1 : 0, 1);
        }
        if (first.contains("Exception, ")) {
            String clause = first.substring(first.indexOf("throws "), first.indexOf("`:"));
            check.due("whether a test is for '" + clause + "' of " + section, isQuoted(section, clause) ? 1 : 0, 1);
        }
    }

    private boolean isQuoted(String section, String sentence) {
        for (Sentence one : quoted) {
            if (one.of().equals(section) && sentence.contains(one.says())) {
                return true;
            }
        }
        return false;
    }

    private boolean isUndone(String section) {
        for (Sentence one : quoted) {
            if (one.of().equals(section) && one.says().endsWith("Undoable.")) {
                return true;
            }
        }
        return false;
    }
}
