import java.lang.annotation.ElementType;
import java.lang.annotation.Retention;
import java.lang.annotation.RetentionPolicy;
import java.lang.annotation.Target;

/** The promise or term of the document that a class of tests is of. */
@Retention(RetentionPolicy.RUNTIME)
@Target(ElementType.TYPE)
@interface Of {
    String value();
}
