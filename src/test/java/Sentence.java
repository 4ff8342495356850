import java.lang.annotation.ElementType;
import java.lang.annotation.Retention;
import java.lang.annotation.RetentionPolicy;
import java.lang.annotation.Target;

/** The sentence of the document that a test stands for: the test fails if it does not hold. */
@Retention(RetentionPolicy.RUNTIME)
@Target(ElementType.METHOD)
@interface Sentence {
    /** The numbers of the promises that the sentence belongs to. */
    int[] promise();

    /** The sentence, or the part of it that names the case, in the document's own words. */
    String says();

    /** The heading that it stands under, where that is not the promise's own. */
    String in() default "";
}
