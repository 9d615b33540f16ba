import java.lang.annotation.Retention;
import java.lang.annotation.RetentionPolicy;

/** The sentence of the document, word for word, that a test tests. */
@Retention(RetentionPolicy.RUNTIME)
@interface Sentence {
    String value();
}
