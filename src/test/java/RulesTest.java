import java.nio.file.Files;
import java.nio.file.Path;
import java.util.regex.Matcher;
import java.util.regex.Pattern;

/** Those rules of LANGUAGE.md that can be seen in the text of the class. */
public final class RulesTest {
    private static final Due due = new Due("RulesTest");
    private static final String[] RULED_OUT = {"\\bthrow\\b", "\\bthrows\\b", "\\btry\\b", "\\bcatch\\b",
        "\\bsynchronized\\b", "\\bassert\\b", "->", "::", "\\bstatic\\s*\\{", "\\bequals\\b", "\\bhashCode\\b",
        "\\btoString\\b", "Exact\\b", "\\bThread\\b", "\\bnanoTime\\b", "\\bRandom\\b", "\\bString\\b", "\"",
        "\\bpackage\\b", "\\bprotected\\b", "\\binstanceof\\b", "\\b(double|float)\\b", "\\bvar\\b"};

    public static void main(String[] args) throws Exception {
        String text = Files.readString(Path.of("src/main/java/MarbleRun.java"));
        String code = text.replaceAll("(?s)/\\*.*?\\*/", " ").replaceAll("//[^\n]*", " ");
        for (String rule : RULED_OUT) {
            due.holds("no " + rule, !Pattern.compile(rule).matcher(code).find());
        }
        due.is("imports", many(code, "\\bimport\\b"), 1);
        due.is("of Arrays", many(code, "\\bimport java\\.util\\.Arrays;"), 1);
        due.holds("at most twelve classes", many(code, "\\bclass [A-Z]") <= 12);
        due.is("classes inside that are not private and static",
            many(code, "\\bclass [A-Z]") - 1 - many(code, "\\bprivate static (final )?class [A-Z]"), 0);
        methodsAreShort(code);
        due.end();
    }

    private static int many(String code, String pattern) {
        Matcher m = Pattern.compile(pattern).matcher(code);
        int found = 0;
        while (m.find()) {
            found++;
        }
        return found;
    }

    private static void methodsAreShort(String code) {
        Pattern head = Pattern.compile("(?m)^( +)(?:[a-zA-Z]+(?:\\[\\])* )*([a-zA-Z0-9]+)\\(([^()]*)\\) \\{$");
        Matcher m = head.matcher(code);
        int heads = 0;
        while (m.find()) {
            String name = m.group(2);
            if (name.equals("if") || name.equals("for") || name.equals("while") || name.equals("switch")) {
                continue;
            }
            heads++;
            int end = code.indexOf("\n" + m.group(1) + "}", m.start());
            long lines = code.substring(m.start(), end).lines().count();
            due.holds(name + " has " + lines + " lines", lines <= 60);
            due.holds(name + " takes at most seven", m.group(3).split(",").length <= 7);
        }
        due.holds("methods are found", heads > 100);
    }
}
