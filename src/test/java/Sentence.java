import java.lang.annotation.ElementType;
import java.lang.annotation.Retention;
import java.lang.annotation.RetentionPolicy;
import java.lang.annotation.Target;

/**
 * The sentences of the document that a test holds, word for word; what stands under the head of a
 * promise has the number of the promise ahead of it. SentenceTest compares them with the document.
 */
@Retention(RetentionPolicy.RUNTIME)
@Target(ElementType.METHOD)
@interface Sentence {
    String[] value();
}
