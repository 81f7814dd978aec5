import java.lang.annotation.ElementType;
import java.lang.annotation.Retention;
import java.lang.annotation.RetentionPolicy;
import java.lang.annotation.Target;

/** Which sentence of the document a test is for: it fails if that sentence is broken. */
@Retention(RetentionPolicy.RUNTIME)
@Target(ElementType.METHOD)
@interface Says {
    /** The heading that the sentence stands under: "Terms", or "Promise 3". */
    String in();

    /** The sentence, or its part, in the document's own words. */
    String sentence();
}
