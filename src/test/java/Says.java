import java.lang.annotation.ElementType;
import java.lang.annotation.Retention;
import java.lang.annotation.RetentionPolicy;
import java.lang.annotation.Target;

/** Which words of ../shared/DOC.md a test is about; SentencesTest looks that they stand there. */
@Retention(RetentionPolicy.RUNTIME)
@Target(ElementType.METHOD)
@interface Says {
    /** "Terms 1" to "Terms 3", "Promise 1" to "Promise 27", or "Use" for the words ahead of them. */
    String in();

    String words();
}
