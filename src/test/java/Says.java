import java.lang.annotation.ElementType;
import java.lang.annotation.Retention;
import java.lang.annotation.RetentionPolicy;
import java.lang.annotation.Target;

/** The document's words that a test is for: of its own promise, or of what stands ahead of them. */
@Retention(RetentionPolicy.RUNTIME)
@Target(ElementType.METHOD)
@interface Says {
    String[] value();
}
