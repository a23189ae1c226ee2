import java.lang.annotation.Retention;
import java.lang.annotation.RetentionPolicy;

/** The sentence of the document that a test method stands for, word by word, and the section that it stands in. */
@Retention(RetentionPolicy.RUNTIME)
@interface Says {
    String at();

    String text();
}
