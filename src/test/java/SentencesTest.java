import java.io.File;
import java.io.IOException;
import java.lang.reflect.Method;
import java.nio.file.Files;
import java.nio.file.Path;
import java.util.ArrayList;
import java.util.Arrays;
import java.util.List;

/** A test of the tests: each says which sentence it holds the class to, and no sentence is without one. */
public final class SentencesTest {
    private static final Path DOCUMENT = Path.of("..", "shared", "DOC.md");
    private static final Path LANGUAGE = Path.of("..", "shared", "LANGUAGE.md");

    public static void main(String[] args) {
        Check.run(SentencesTest.class);
    }

    static void eachTestQuotesADocument(Check check) throws IOException, ClassNotFoundException {
        String all = inOneLine(Files.readString(DOCUMENT)) + " " + inOneLine(Files.readString(LANGUAGE));
        for (Method test : tests()) {
            Holds holds = test.getAnnotation(Holds.class);
            check.due(test + " says a sentence", holds != null && holds.value().length > 0);
            for (String quote : holds == null ? new String[0] : holds.value()) {
                int at = all.indexOf(quote);
                check.due("\"" + quote + "\" of " + test + " stands once", at >= 0 && all.indexOf(quote, at + 1) < 0);
            }
        }
    }

    static void eachSentenceHasATest(Check check) throws IOException, ClassNotFoundException {
        String promises = inOneLine(promisesOf(Files.readString(DOCUMENT)));
        boolean[] held = new boolean[promises.length()];
        for (Method test : tests()) {
            Holds holds = test.getAnnotation(Holds.class);
            for (String quote : holds == null ? new String[0] : holds.value()) {
                int at = promises.indexOf(quote);
                if (at >= 0) {
                    Arrays.fill(held, at, at + quote.length(), true);
                }
            }
        }
        int from = 0;
        for (int i = 0; i <= held.length; i++) {
            if (i == held.length || held[i]) {
                String left = promises.substring(from, i);
                check.due("\"" + left + "\" has a test", left.chars().noneMatch(Character::isLetterOrDigit));
                from = i + 1;
            }
        }
    }

    /** The terms and the promises, without their headings and signatures: the face has a test of its own. */
    private static String promisesOf(String document) {
        String terms = document.substring(document.indexOf("## Terms"), document.indexOf("## Not promised"));
        return terms.replaceAll("(?m)^(## |```).*$", "").replaceAll("`[^`]*`:", "");
    }

    private static String inOneLine(String text) {
        return text.replaceAll("(?m)^(```).*$", "").replaceAll("`[^`]*`:", "").replaceAll("\\s+", " ");
    }

    private static List<Method> tests() throws ClassNotFoundException {
        List<Method> tests = new ArrayList<>();
        File folder = new File(SentencesTest.class.getProtectionDomain().getCodeSource().getLocation().getPath());
        for (String file : folder.list()) {
            if (file.endsWith("Test.class") && !file.equals("SentencesTest.class")) {
                for (Method method : Class.forName(file.replace(".class", "")).getDeclaredMethods()) {
                    if (Check.isTest(method)) {
                        tests.add(method);
                    }
                }
            }
        }
        return tests;
    }
}
