import java.nio.file.Files;
import java.nio.file.Path;
import java.util.List;
import java.util.regex.Matcher;
import java.util.regex.Pattern;

/** What of ../shared/LANGUAGE.md a look at the text can tell; the rest is for whoever changes the class. */
final class LanguageTest {
    private static final String SOURCE = "src/main/java/DryRiver.java";
    private static final List<String> BANNED = List.of("->", "::", "@", "\\bfinally\\b", "\\bsynchronized\\b", "\\bassert\\b",
            "\\btry\\b", "\\bcatch\\b", "\\bpackage\\b", "\\bdouble\\b", "\\bfloat\\b", "\\bSystem\\.(?!arraycopy)", "\\bvar\\b",
            "Exact\\(", "\\bstatic \\{", "\\binstanceof\\b", "\\bObjects?\\b", "\\bprotected\\b", "while \\(true\\)",
            "for \\(;;", "\\[\\]\\[\\]");

    public static void main(String[] args) throws Exception {
        Check c = new Check("LanguageTest");
        String source = Files.readString(Path.of(SOURCE));
        String code = source.replaceAll("(?s)/\\*.*?\\*/", "").replaceAll("//.*", "").replaceAll("\"[^\"\n]*\"", "\"\"");
        for (String banned : BANNED) {
            c.is("stands without " + banned, false, Pattern.compile(banned).matcher(code).find());
        }
        Matcher imports = Pattern.compile("import ([\\w.]+);").matcher(code);
        while (imports.find()) {
            c.is("import " + imports.group(1), true, imports.group(1).equals("java.util.NoSuchElementException"));
        }
        c.is("signs are 1 to 127", true, source.chars().allMatch(sign -> sign > 0 && sign < 128));
        c.is("some twelve classes at most", true, Pattern.compile("\\bclass \\w+").matcher(code).results().count() <= 12);
        c.is("no text is joined by +", false, Pattern.compile("\"\" \\+|\\+ \"\"").matcher(code).find());
        throwsWhatItMay(c, code);
        methodsStayShort(c, source);
        c.close();
    }

    private static void throwsWhatItMay(Check c, String code) {
        Matcher thrown = Pattern.compile("throw (.*?);").matcher(code);
        while (thrown.find()) {
            c.is("throw " + thrown.group(1), true, thrown.group(1).matches(
                    "new (IllegalState|IllegalArgument|IndexOutOfBounds|UnsupportedOperation|NoSuchElement)Exception\\((\"\")?\\)"));
        }
    }

    private static void methodsStayShort(Check c, String source) {
        String[] lines = source.split("\n");
        int begin = -1;
        String indent = "";
        for (int i = 0; i < lines.length; i++) {
            Matcher head = Pattern.compile("^(    |        )\\w[^=;]*\\((.*)\\)[^=;]*\\{$").matcher(lines[i]);
            if (head.matches() && !lines[i].strip().matches("(if|for|while|switch|\\}).*")) {
                begin = i;
                indent = head.group(1);
                c.is("parameters in " + lines[i].strip(), true, head.group(2).split(",").length <= 7);
            } else if (begin >= 0 && lines[i].equals(indent + "}")) {
                c.is("length of " + lines[begin].strip(), true, i - begin <= 60);
                begin = -1;
            }
        }
    }
}
