import java.lang.annotation.Retention;
import java.lang.annotation.RetentionPolicy;

/** Marks a test by the words of the document that it holds the class to. */
@Retention(RetentionPolicy.RUNTIME)
@interface Sentence {
    String value();
}
