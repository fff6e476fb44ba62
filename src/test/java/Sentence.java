import java.lang.annotation.ElementType;
import java.lang.annotation.Retention;
import java.lang.annotation.RetentionPolicy;
import java.lang.annotation.Target;

/**
 * The sentence of ../shared/DOC.md, or a part of it, that a test is about. The place where it
 * stands is the name of the test up to its first underscore: promise12_.., section4_..
 */
@Retention(RetentionPolicy.RUNTIME)
@Target(ElementType.METHOD)
@interface Sentence {
    String value();
}
