import java.lang.annotation.ElementType;
import java.lang.annotation.Retention;
import java.lang.annotation.RetentionPolicy;
import java.lang.annotation.Target;

/** The sentence of the document that a test stands for. */
@Retention(RetentionPolicy.RUNTIME)
@Target(ElementType.METHOD)
@interface Sentence {
    /** The promise's number and name, as the document's section has them. */
    String promise();

    /** The document's own words, of that section or of "Terms" and "What it is". */
    String says();

    /** Which edge of the sentence the test looks at. */
    String edge();
}
