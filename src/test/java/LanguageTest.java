import java.io.IOException;
import java.nio.file.Files;
import java.nio.file.Path;
import java.util.regex.Matcher;
import java.util.regex.Pattern;

/** The rules of LANGUAGE.md that can be seen from the text of the program, and its public face. */
public final class LanguageTest {
    private static final String[] RULED_OUT = {"throw", "throws", "try", "catch", "synchronized", "assert", "import",
        "package", "protected", "volatile", "transient", "native", "var", "yield", "instanceof", "finally", "lambda"};
    private static final String[] MARKS = {"->", "::", "@", "\"\"\"", "Exact(", "System.out", "Math.random",
        "System.nano", "System.current", "hashCode", "toString", ".equals("};
    private static final String NAMES = "feed end text fault board field man rule ends ways path move stop state may"
        + " fatal loses brave binds drive shorter alike meanings wins soonest drawn count image again";

    public static void main(String[] args) throws IOException {
        String source = Files.readString(Path.of(args[0]));
        String code = source.replaceAll("(?s)/\\*.*?\\*/", "").replaceAll("//[^\\n]*", "");
        for (String word : RULED_OUT) {
            none(code, "\\b" + word + "\\b");
        }
        for (String mark : MARKS) {
            none(code, Pattern.quote(mark));
        }
        for (String name : NAMES.split(" ")) {
            Talk.due("one public " + name, count(code, "public [a-z]+ " + name + "\\("), 1);
            Talk.due("no other " + name, count(code, "(?<!public )\\b(?:int|long|boolean|void) " + name + "\\("), 0);
        }
        Talk.due("public things", count(code, "\\bpublic\\b"), 3 + NAMES.split(" ").length);
        Talk.due("classes", count(code, "\\bclass\\b") <= 12, true);
        Talk.due("all inner classes static", count(code, "(?<!static final )class"), count(code, "public final class"));
        Talk.due("static state", count(code, "static (?!final|int \\w+\\(|long \\w+\\(|boolean \\w+\\()"), 0);
        Talk.due("signs above 126", count(source, "[^\\n -~]"), 0);
        lengths(code);
        Talk.finish("LanguageTest");
    }

    static void none(String code, String pattern) {
        Talk.due("uses of " + pattern, count(code, pattern), 0);
    }

    static int count(String code, String pattern) {
        Matcher matcher = Pattern.compile(pattern).matcher(code);
        int found = 0;
        while (matcher.find()) {
            found++;
        }
        return found;
    }

    /** Methods stay short, and take at most seven parameters. */
    static void lengths(String code) {
        Matcher head = Pattern.compile("(?m)^( +)[\\w\\[\\] ]+\\(([^()]*)\\) \\{$").matcher(code);
        while (head.find()) {
            int end = code.indexOf("\n" + head.group(1) + "}", head.end());
            int lines = code.substring(head.start(), end).split("\n").length;
            Talk.due("length of " + head.group().trim(), lines <= 60, true);
            Talk.due("parameters of " + head.group().trim(), head.group(2).split(",").length <= 7, true);
        }
    }
}
