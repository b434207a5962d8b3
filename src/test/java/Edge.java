import java.lang.annotation.Retention;
import java.lang.annotation.RetentionPolicy;

/** A test of one case: the promise (0 what stands ahead of them) and the words of it that name the case. */
@Retention(RetentionPolicy.RUNTIME)
@interface Edge {
    int promise();

    String says();
}
