import java.lang.annotation.ElementType;
import java.lang.annotation.Retention;
import java.lang.annotation.RetentionPolicy;
import java.lang.annotation.Target;

/** Marks a test: where in the document the sentence stands that it holds, and the words of it. */
@Retention(RetentionPolicy.RUNTIME)
@Target(ElementType.METHOD)
@interface Holds {
    /** The heading without its title: "Terms", "Promise 7". */
    String at();

    /** A sentence, or the part of one that the test is about, letter by letter. */
    String words();
}
