import java.io.IOException;
import java.nio.file.Files;
import java.nio.file.Path;
import java.util.Set;
import java.util.TreeSet;
import java.util.regex.Matcher;
import java.util.regex.Pattern;

/** The rules of LANGUAGE.md that a look at the source's words can hold BellCars.java to. */
public final class LanguageTest {
    private static final Path SOURCE = Path.of("src/main/java/BellCars.java");
    private static final Set<String> BARRED = Set.of("throw", "throws", "try", "catch", "finally", "synchronized",
        "assert", "package", "import", "volatile", "transient", "native", "strictfp", "var", "yield", "Object",
        "equals", "hashCode", "toString", "getClass", "Thread", "Runtime", "Random", "System.currentTimeMillis",
        "System.nanoTime", "System.out", "Scanner", "File", "Exception", "Error", "protected");
    private static final Set<String> LIBRARY = Set.of("System.arraycopy", "Math.abs", "Math.min", "Math.max",
        "Integer.bitCount");

    public static void main(String[] args) throws IOException {
        String source = Files.readString(SOURCE);
        String code = withoutComments(source);
        words(code);
        signs(code);
        library(code);
        madeInConstructorsAlone(code);
        methodsAreShort(code);
        whatCallsItselfIsPrivateAndStatic(code);
        Script.finish("LanguageTest");
    }

    private static String withoutComments(String source) {
        return source.replaceAll("(?s)/\\*.*?\\*/", "").replaceAll("//[^\\n]*", "").replaceAll("'.'", "'_'");
    }

    private static void words(String code) {
        Matcher matcher = Pattern.compile("[A-Za-z_][A-Za-z_0-9]*").matcher(code);
        Set<String> seen = new TreeSet<>();
        while (matcher.find()) {
            seen.add(matcher.group());
        }
        for (String word : BARRED) {
            Script.holds(word + " stands in the source", !seen.contains(word));
        }
    }

    private static void signs(String code) {
        for (String sign : new String[] {"->", "::", "@", "\"", "<T", "float", "double"}) {
            Script.holds(sign + " stands in the source", !code.contains(sign));
        }
        for (int i = 0; i < code.length(); i++) {
            if (code.charAt(i) > 126) {
                Script.holds("a sign beyond 126 at " + i, false);
            }
        }
    }

    private static void library(String code) {
        Matcher matcher = Pattern.compile("\\b(System|Math|Integer|Long|Arrays|String|List|ArrayList)\\b(\\.\\w+)?")
            .matcher(code);
        while (matcher.find()) {
            Script.holds(matcher.group() + " is of the library", LIBRARY.contains(matcher.group()));
        }
    }

    /** All calls of a run live in one room: what calls need is made with the object, never by a call. */
    private static void madeInConstructorsAlone(String code) {
        String[] lines = code.split("\n");
        boolean inConstructor = false;
        for (String line : lines) {
            if (line.matches(" +(public )?[A-Z]\\w*\\(\\) \\{")) {
                inConstructor = true;
            } else if (line.matches(" {4,8}\\}")) {
                inConstructor = false;
            }
            boolean field = line.matches(" +(private )?final [^(]*= new .*;");
            Script.holds("made outside a constructor:" + line, !line.contains("new ") || field || inConstructor);
        }
    }

    private static void methodsAreShort(String code) {
        int lines = 0;
        for (String line : code.split("\n")) {
            boolean head = line.matches(" {4,8}[a-z].*\\) \\{");
            lines = head ? 0 : lines + 1;
            if (line.matches(" {4,8}\\}")) {
                Script.holds("a method of " + lines + " lines", lines <= 60);
                lines = 0;
            }
        }
    }

    /** Rule 8. A call of another object's method of the same name has a dot ahead. */
    private static void whatCallsItselfIsPrivateAndStatic(String code) {
        Matcher head = Pattern.compile("(?m)^( {4,8})([a-z][\\w\\[\\] ]* (\\w+))\\(.*\\) \\{$").matcher(code);
        int heads = 0;
        while (head.find()) {
            heads++;
            int end = code.indexOf("\n" + head.group(1) + "}", head.end());
            String body = code.substring(head.end(), end);
            boolean callsItself = Pattern.compile("(?<![.\\w])" + head.group(3) + "\\(").matcher(body).find();
            Script.holds(head.group(3) + " calls itself, and is not private static",
                !callsItself || head.group(2).startsWith("private static "));
        }
        Script.holds("only " + heads + " methods were found", heads > 80);
    }
}
