import java.io.IOException;
import java.lang.reflect.Method;
import java.lang.reflect.Modifier;
import java.nio.file.Files;
import java.nio.file.Path;
import java.util.regex.Matcher;
import java.util.regex.Pattern;

/** The rules of LANGUAGE.md that can be seen by reading the file alone. */
public final class LanguageTest {
    private static final Due due = new Due("LanguageTest");

    public static void main(String[] args) throws IOException {
        String text = Files.readString(Path.of("src/main/java/TalePlay.java"));
        String code = text.replaceAll("(?s)/\\*.*?\\*/", "").replaceAll("//[^\\n]*", "");
        String[] banned = {"throw", "throws", "try", "catch", "synchronized", "assert", "package", "instanceof",
            "protected", "volatile", "Thread", "Random", "String", "Object", "while",
            "hashCode", "equals", "toString", "\\w*Exact", "float", "double", "yield"};
        for (String word : banned) {
            due.be("the code has " + word, count(code, "\\b" + word + "\\b"), 0);
        }
        due.be("calls of System but arraycopy", count(code, "\\bSystem\\.(?!arraycopy)"), 0);
        due.be("method references", count(code, "::"), 0);
        due.be("lambdas", count(code, "\\)\\s*->"), 0);
        due.be("imports", count(code, "\\bimport\\b"), 1);
        due.be("Arrays imported", count(code, "import java\\.util\\.Arrays;"), 1);
        due.be("calls of Arrays but fill", count(code, "Arrays\\.(?!fill)") - count(code, "util\\.Arrays\\."), 0);
        due.be("static fields that are not final", count(code, "\\bstatic (?!final|boolean|int \\w+\\(|long \\w+\\()"), 0);
        due.be("classes inside that are not private static final", count(code, "\\bclass\\b")
                - count(code, "private static final class") - 1, 0);
        due.be("classes: twelve at most", count(code, "\\bclass\\b") <= 12 ? 1 : 0, 1);
        longMethods(code);
        namesOfTheFace(code);
        due.done();
    }

    private static int count(String code, String pattern) {
        Matcher m = Pattern.compile(pattern).matcher(code);
        int n = 0;
        while (m.find()) {
            n++;
        }
        return n;
    }

    /** No method that is not of the face bears the name of one that is. */
    private static void namesOfTheFace(String code) {
        for (Method m : TalePlay.class.getDeclaredMethods()) {
            if (Modifier.isPublic(m.getModifiers())) {
                String head = "\\n[\\w\\[\\] ]+ " + m.getName() + "\\([^)]*\\) \\{";
                due.be("methods named " + m.getName(), count(code, head), 1);
            }
        }
    }

    private static void longMethods(String code) {
        String[] rows = code.split("\n");
        int start = -1;
        String head = "";
        for (int i = 0; i < rows.length; i++) {
            boolean isHead = rows[i].matches("( {4}| {8})[\\w\\[\\] ]+\\(.*\\) \\{");
            if (isHead) {
                start = i;
                head = rows[i].trim();
                due.be("seven parameters at most: " + head, head.split(",").length <= 7 ? 1 : 0, 1);
            }
            if (start >= 0 && rows[i].matches("( {4}| {8})\\}")) {
                due.be("sixty lines at most: " + head, i - start <= 60 ? 1 : 0, 1);
                start = -1;
            }
        }
    }
}
