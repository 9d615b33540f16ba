import java.lang.annotation.Retention;
import java.lang.annotation.RetentionPolicy;

/** The section of the document, by its headline, whose sentences the tests of a class name. */
@Retention(RetentionPolicy.RUNTIME)
@interface Section {
    String value();
}
