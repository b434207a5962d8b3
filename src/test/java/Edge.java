import java.lang.annotation.Retention;
import java.lang.annotation.RetentionPolicy;

/** A test of one boundary case: the promise (0 the terms) and the words of it that name the case. */
@Retention(RetentionPolicy.RUNTIME)
@interface Edge {
    int promise();

    String says();
}
