import java.lang.reflect.InvocationTargetException;
import java.lang.reflect.Method;
import java.util.Arrays;
import java.util.Comparator;
import java.util.List;

/**
 * Runs the tests that are each about one sentence of the document (see Says), and looks that no word of the Terms and
 * the Promises is without one.
 */
public final class SentencesTest {
    private static final List<Class<?>> CLASSES = List.of(SentencesOfTheMap.class, SentencesOfTheBook.class,
        SentencesOfTheLaw.class, SentencesOfFaults.class, SentencesOfStorms.class, SentencesOfTheEnd.class,
        SentencesOfCalls.class, SentencesOfTheTape.class, SentencesOfTheYear.class, SentencesOfAsking.class);

    public static void main(String[] args) throws Exception {
        Document document = new Document();
        Check.due("parts of the document", document.partCount(), 31);
        int sentences = 0;
        for (Class<?> tests : CLASSES) {
            Method[] methods = tests.getDeclaredMethods();
            Arrays.sort(methods, Comparator.comparing(Method::getName));
            for (Method method : methods) {
                Says says = method.getAnnotation(Says.class);
                if (says != null) {
                    run(document, method, says);
                    sentences++;
                }
            }
        }
        Check.about("SentencesTest");
        for (String word : document.notQuoted()) {
            Check.due("word without a test: " + word, 1, 0);
        }
        System.out.println(sentences + " sentences, each with a test of its own");
        Check.close("SentencesTest");
    }

    private static void run(Document document, Method method, Says says) throws IllegalAccessException {
        Check.about(says.in() + ", \"" + says.words() + "\" (" + method.getName() + ")");
        String wrong = document.quote(says.in(), says.words());
        Check.due("quote: " + wrong, wrong == null, true);
        int before = Check.count();
        try {
            method.setAccessible(true);
            method.invoke(null);
        } catch (InvocationTargetException e) {
            e.getCause().printStackTrace(System.out);
            Check.due("exception " + e.getCause(), 1, 0);
        }
        Check.due("a test that asks something", Check.count() > before, true);
    }
}
