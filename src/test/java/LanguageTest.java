import java.io.IOException;
import java.nio.charset.StandardCharsets;
import java.nio.file.Files;
import java.nio.file.Path;
import java.util.regex.Matcher;
import java.util.regex.Pattern;

/** Words and signs that LANGUAGE.md leaves out do not stand in the class. The argument is the class's file. */
public final class LanguageTest {
    private static final String[] LEFT_OUT = {"import", "package", "protected", "try", "catch", "finally", "synchronized",
        "assert", "System", "Double", "Float", "Math", "Integer", "Long", "Object", "Random", "Thread", "hashCode",
        "equals", "toString", "volatile", "native", "strictfp", "var", "yield", "sealed", "record", "long\\s*\\[\\]\\s*\\["};
    private static final String[] LISTED = {"System.arraycopy", "Math.min", "Math.max", "Math.abs", "Integer.bitCount"};
    private static final String[] EXCEPTIONS = {"IllegalStateException", "IllegalArgumentException", "IndexOutOfBoundsException"};

    public static void main(String[] args) throws IOException {
        String source = Files.readString(Path.of(args[0]), StandardCharsets.ISO_8859_1);
        for (int i = 0; i < source.length(); i++) {
            if (source.charAt(i) > 126) {
                Check.fail("a sign above 126 at " + i);
            }
        }
        String code = source.replaceAll("(?s)/\\*.*?\\*/", "").replaceAll("//[^\n]*", "");
        String bare = code.replaceAll("\"[^\"\n]*\"", "\"\"");
        for (String listed : LISTED) {
            bare = bare.replace(listed + "(", "listed(");
        }
        for (String word : LEFT_OUT) {
            Check.same(word, Pattern.compile("\\b" + word + "\\b").matcher(bare).find() ? 1 : 0, 0);
        }
        Check.same("lambdas", bare.contains("->") ? 1 : 0, 0);
        Check.same("method references", bare.contains("::") ? 1 : 0, 0);
        Check.same("annotations", bare.contains("@") ? 1 : 0, 0);
        for (String name : EXCEPTIONS) {
            bare = bare.replace("throw new " + name + "(\"\");", "");
        }
        Check.same("other throws", bare.contains("throw new") ? 1 : 0, 0);
        statics(bare);
        methodLengths(code);
        Check.end("LanguageTest");
    }

    private static void statics(String bare) {
        Matcher fields = Pattern.compile("(?m)^\\s*((?:(?:public|private|static|final)\\s+)*)[\\w\\[\\]]+ \\w+( =|;)").matcher(bare);
        while (fields.find()) {
            String words = fields.group(1);
            Check.same("static without final: " + fields.group().trim(), words.contains("static") && !words.contains("final") ? 1 : 0, 0);
        }
    }

    private static void methodLengths(String code) {
        int started = 0;
        int line = 0;
        for (String text : code.split("\n", -1)) {
            line++;
            if (text.matches("\\s{4,8}[\\w\\[\\] ]+\\(.*\\{")) {
                started = line;
            } else if (text.matches("\\s{4,8}\\}") && started > 0) {
                Check.same("a long method at " + started, line - started > 60 ? 1 : 0, 0);
            }
        }
    }
}
