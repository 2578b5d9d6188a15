import java.lang.annotation.ElementType;
import java.lang.annotation.Retention;
import java.lang.annotation.RetentionPolicy;
import java.lang.annotation.Target;

/** The sentence of ../shared/DOC.md that a test is for, word for word but for the back quotes. */
@Retention(RetentionPolicy.RUNTIME)
@Target(ElementType.METHOD)
@interface Says {
    /** Stands for the part of the document that is headed "Terms". */
    int TERMS = 0;

    /** The number of the promise under which the sentence stands, or TERMS. */
    int promise();

    String value();
}
