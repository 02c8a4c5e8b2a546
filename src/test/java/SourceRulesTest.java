import java.nio.file.Files;
import java.nio.file.Path;
import java.util.regex.Matcher;
import java.util.regex.Pattern;

/** What LANGUAGE.md rules out, as far as words and signs show it, does not stand in the class. */
public final class SourceRulesTest {
    private static final String SOURCE = "src/main/java/CinnamonPeelers.java";
    private static final String[] RULED_OUT = {
        "->", "::", "\\b(try|catch|finally|synchronized|assert|package|native|volatile|transient|protected)\\b",
        "\\bstatic\\s*\\{", "\\b(equals|hashCode|toString|getMessage)\\b", "\\w+Exact\\b",
        "\\b(Random|Thread|System\\.(?!arraycopy)|Object|HashMap|Map|Set|Optional|Stream)\\b",
        "\\b(double|float|var|instanceof|yield)\\b", "\"\\s*\\+|\\+\\s*\"", "while\\s*\\(\\s*true", "for\\s*\\(\\s*;",
        "[^\\n -~]", "\\bthrow\\b(?! new NoSuchElementException\\(\"[^\"]*\"\\);)", "\\bstatic (?!final\\b)[\\w<>\\[\\]]+ \\w+( =|;)"};
    private static final int LONGEST_METHOD = 60;
    private static final int MOST_CLASSES = 12;

    public static void main(String[] args) throws Exception {
        String code = Files.readString(Path.of(SOURCE)).replaceAll("(?s)/\\*.*?\\*/", "").replaceAll("//[^\n]*", "");
        int wrong = 0;
        for (String pattern : RULED_OUT) {
            Matcher m = Pattern.compile(pattern).matcher(code);
            if (m.find()) {
                System.out.println("ruled out: " + m.group());
                wrong++;
            }
        }
        Matcher imports = Pattern.compile("import ([^;]+);").matcher(code);
        while (imports.find()) {
            if (!imports.group(1).matches("java\\.util\\.(ArrayList|List|NoSuchElementException|Arrays|Iterator)")) {
                System.out.println("import ruled out: " + imports.group(1));
                wrong++;
            }
        }
        Matcher classes = Pattern.compile("\\bclass \\w+").matcher(code);
        int many = 0;
        while (classes.find()) {
            many++;
        }
        if (many > MOST_CLASSES) {
            System.out.println(many + " classes");
            wrong++;
        }
        wrong += longMethods(code);
        System.out.println(wrong == 0 ? "nothing that is ruled out was found" : wrong + " rules are broken");
        if (wrong != 0) {
            System.exit(1);
        }
    }

    /** Methods by their indent: a line that ends in ") {" (or with throws) up to the brace in the same column. */
    private static int longMethods(String code) {
        int wrong = 0;
        Matcher m = Pattern.compile("(?m)^((?: {4}){1,2})(?! )[^\n=]*\\)[^\n;]*\\{\n(?s:.*?)\n\\1\\}").matcher(code);
        while (m.find()) {
            long lines = m.group().lines().count();
            if (lines > LONGEST_METHOD) {
                System.out.println("a method of " + lines + " lines: " + m.group().lines().findFirst().get());
                wrong++;
            }
        }
        return wrong;
    }
}
