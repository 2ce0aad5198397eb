import java.lang.annotation.ElementType;
import java.lang.annotation.Repeatable;
import java.lang.annotation.Retention;
import java.lang.annotation.RetentionPolicy;
import java.lang.annotation.Target;

/** The words of the document to which a test holds the program. */
@Retention(RetentionPolicy.RUNTIME)
@Target(ElementType.METHOD)
@Repeatable(Says.All.class)
@interface Says {
    /** Below which heading of the document they stand; of a promise, the number alone. */
    String in();

    String[] words();

    /** What a test that names several headings bears. */
    @Retention(RetentionPolicy.RUNTIME)
    @Target(ElementType.METHOD)
    @interface All {
        Says[] value();
    }
}
