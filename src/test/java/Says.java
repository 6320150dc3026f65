import java.lang.annotation.Retention;
import java.lang.annotation.RetentionPolicy;

/** The promise (0 for the terms) and the words of the document that a test holds to. */
@Retention(RetentionPolicy.RUNTIME)
@interface Says {
    int promise();

    String words();
}
