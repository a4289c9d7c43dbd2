import java.io.IOException;
import java.nio.file.Files;
import java.nio.file.Path;
import java.util.ArrayList;
import java.util.List;
import java.util.Set;
import java.util.regex.Matcher;
import java.util.regex.Pattern;

/** What can be seen of LANGUAGE.md's rules in the lines of the class; FaceTest sees the first rule. */
public final class LanguageTest {
    private static final Set<String> EXCEPTIONS = Set.of("IllegalStateException", "IllegalArgumentException",
            "NoSuchElementException", "ArithmeticException", "UnsupportedOperationException");
    private static final Set<String> LIBRARY = Set.of("System.arraycopy", "Math.abs", "Integer.bitCount");
    private static final Pattern METHOD = Pattern.compile(
            "^( {4}| {8})(?:(?:public|private|static) )*(?:[\\w\\[\\]]+ )?(\\w+)\\(([^()]*)\\)(?: \\{|$| throws )");

    private final Due due = new Due("the language");
    private final List<String> lines;
    private final String code;

    private LanguageTest(String source) {
        // texts and comments hold no code
        String bare = source.replaceAll("\"[^\"\n]*\"", "\"\"").replaceAll("//.*", "");
        code = Pattern.compile("/\\*.*?\\*/", Pattern.DOTALL).matcher(bare)
                .replaceAll(comment -> comment.group().replaceAll("[^\n]", ""));
        lines = List.of(code.split("\n"));
    }

    public static void main(String[] args) throws IOException {
        LanguageTest test = new LanguageTest(Files.readString(Path.of("src/main/java/ActorMachine.java")));
        test.words();
        test.library();
        test.throwsOnlyAsAllowed();
        test.methods();
        test.classesAndFields();
        test.due.close();
    }

    private void words() {
        for (String word : List.of("->", "::", "\\btry\\b", "\\bfinally\\b", "\\bsynchronized\\b", "\\bassert\\b",
                "\\bpackage\\b", "\\bdouble\\b", "\\bfloat\\b", "\\bequals\\b", "\\bhashCode\\b", "\\btoString\\b",
                "\\bstatic \\{", "\\bwhile \\(true\\)", "for \\(;")) {
            due.isTrue("none of " + word, all(word).isEmpty());
        }
        due.isTrue("one import", all("\\bimport .*").equals(List.of("import java.util.NoSuchElementException;")));
    }

    private void library() {
        for (String call : all("\\b[A-Z]\\w*[a-z]\\w*\\.\\w+")) {
            String owner = call.substring(0, call.indexOf('.'));
            due.isTrue(call + " is the program's own or allowed",
                    LIBRARY.contains(call) || all("class " + owner + " \\{").size() == 1);
        }
    }

    private void throwsOnlyAsAllowed() {
        for (String thrown : all("\\bthrow\\b.*")) {
            Matcher matcher = Pattern.compile("throw new (\\w+)\\(\"\"\\);").matcher(thrown);
            due.isTrue(thrown + " is a written exception",
                    matcher.matches() && EXCEPTIONS.contains(matcher.group(1)));
        }
    }

    /** Short methods of few parameters; objects are made in constructors alone, and these throw nothing. */
    private void methods() {
        int found = 0;
        for (int i = 0; i < lines.size(); i++) {
            Matcher method = METHOD.matcher(lines.get(i));
            if (method.find()) {
                found++;
                String name = method.group(2);
                int end = lines.subList(i, lines.size()).indexOf(method.group(1) + "}");
                String body = String.join("\n", lines.subList(i, i + end + 1));
                due.isTrue(name + " is short", end > 0 && end <= 60);
                due.isTrue(name + " has few parameters", method.group(3).split(",").length <= 7);
                boolean isConstructor = Character.isUpperCase(name.charAt(0));
                String without = isConstructor ? "\\bthrow\\b" : "(?<!throw )\\bnew\\b";
                due.isTrue(name + " has no " + without, !Pattern.compile(without).matcher(body).find());
            }
        }
        due.isTrue("the methods are found: " + found, found > 80);
    }

    private void classesAndFields() {
        due.isTrue("few classes", all("\\bclass \\w+ \\{").size() <= 12);
        String field = "(?:private |public )?(?:static )?(?:final )?[\\w\\[\\]]+ \\w+(?: = .*)?;";
        // the classes inside stand behind the outer one's methods, and have their fields at 8 blanks
        String blanks = " {4}";
        int fields = 0;
        int found = 0;
        for (String line : lines) {
            if (line.startsWith("    private static final class ")) {
                blanks = " {8}";
                fields = 0;
            }
            if (line.matches(blanks + field)) {
                boolean isStatic = line.contains("static ");
                due.isTrue(line.trim() + " is final if it is static", !isStatic || line.contains("static final "));
                found++;
                fields += isStatic ? 0 : 1;
                due.isTrue("few fields, " + line.trim(), fields <= 20);
            }
        }
        due.isTrue("the fields are found: " + found, found > 60);
    }

    private List<String> all(String pattern) {
        List<String> found = new ArrayList<>();
        Matcher matcher = Pattern.compile(pattern).matcher(code);
        while (matcher.find()) {
            found.add(matcher.group());
        }
        return found;
    }
}
