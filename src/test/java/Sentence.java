import java.lang.annotation.ElementType;
import java.lang.annotation.Retention;
import java.lang.annotation.RetentionPolicy;
import java.lang.annotation.Target;

/**
 * The sentences of the document that a test holds the program to, letter by letter. They stand
 * under the promise that the test's name begins with, or, for "terms", ahead of all promises.
 */
@Retention(RetentionPolicy.RUNTIME)
@Target(ElementType.METHOD)
@interface Sentence {
  String[] value();
}
