import java.io.IOException;
import java.nio.file.Files;
import java.nio.file.Path;
import java.util.Set;
import java.util.TreeSet;
import java.util.regex.Matcher;
import java.util.regex.Pattern;

/** Rules of LANGUAGE.md that the program's text shows; FaceTest has those that the compiled class shows. */
public final class LanguageTest {
    private static final int MOST_LINES = 60;

    private static final Set<String> LIBRARY =
            Set.of("Arrays.fill", "Integer.bitCount", "Math.max", "System.arraycopy");

    private static final Set<String> EXCEPTIONS = Set.of("IllegalStateException", "IllegalArgumentException",
            "IndexOutOfBoundsException", "UnsupportedOperationException");

    private static final String[] FORBIDDEN = {"package ", "->", "::", "static {", "try", "catch", "finally",
        "synchronized", "assert", "volatile", "native", "double", "float", "Object", "getClass", "@", "while (true)",
        "for (;;)"};

    public static void main(String[] args) throws IOException {
        String code = withoutWords(Files.readString(Path.of("src/main/java/VisitGrammar.java")));
        Expect.same("rule 4: imports", "[java.util.Arrays]", found(code, "import ([\\w.*]+);").toString());
        Set<String> calls = found(code, "\\b([A-Z]\\w*\\.[a-z]\\w*)\\(");
        Expect.isTrue("rule 4: the library " + calls, LIBRARY.containsAll(calls));
        Set<String> thrown = found(code, "\\bthrow (.*?)\\(");
        thrown.removeIf(text -> EXCEPTIONS.contains(text.replaceFirst("^new ", "")));
        Expect.same("rule 6: other exceptions", "[]", thrown.toString());
        for (String word : FORBIDDEN) {
            Expect.isTrue("no " + word, !code.contains(word));
        }
        Expect.same("rule 3: arrays of two dimensions", "[]", found(code, "(\\w+\\[\\]\\[\\])").toString());
        Expect.same("rule 10: texts joined by +", "[]", found(code, "(\"\" ?\\+|\\+ ?\"\")").toString());
        Expect.same("rule 9: loops by while without a counter", "[]",
                found(code, "(\\bwhile \\((?!made < steps)[^\n]*)").toString());
        methodsAreShort(code);
        Expect.finish();
    }

    /** The program without its comments, and with nothing in its texts. */
    private static String withoutWords(String source) {
        String code = Pattern.compile("/\\*.*?\\*/", Pattern.DOTALL).matcher(source).replaceAll("");
        return code.replaceAll("//[^\n]*", "").replaceAll("\"[^\"\n]*\"", "\"\"");
    }

    private static Set<String> found(String code, String pattern) {
        Set<String> all = new TreeSet<>();
        Matcher matcher = Pattern.compile(pattern).matcher(code);
        while (matcher.find()) {
            all.add(matcher.group(1));
        }
        return all;
    }

    /** A method's last line is the first one that closes as far out as the method's head stands. */
    private static void methodsAreShort(String code) {
        Pattern method = Pattern.compile("^( +)[^\n=;]*\\b(\\w+)\\([^\n;=]*\n.*?^\\1\\}$",
                Pattern.MULTILINE | Pattern.DOTALL);
        Matcher matcher = method.matcher(code);
        int methods = 0;
        while (matcher.find()) {
            methods++;
            Expect.isTrue("rule 11: " + matcher.group(2) + " is short",
                    matcher.group().split("\n").length <= MOST_LINES);
        }
        Expect.isTrue("rule 11: methods were found", methods > 50);
    }
}
