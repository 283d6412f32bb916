import java.io.IOException;
import java.nio.file.Files;
import java.nio.file.Path;
import java.util.List;
import java.util.regex.Matcher;
import java.util.regex.Pattern;

/** Rules of LANGUAGE.md that can be seen in the text of the class. To be run from the project's folder. */
public final class LanguageTest {
    private static final Path CLASS_FILE = Path.of("src/main/java/SnapStacks.java");
    private static final String[] NEVER = {"\\bthrow\\b", "\\bthrows\\b", "\\btry\\b", "\\bcatch\\b", "\\bassert\\b",
        "\\bsynchronized\\b", "->", "::", "\\bpackage\\b", "Exact\\b", "\\bhashCode\\b", "\\bRandom\\b",
        "\\bcurrentTimeMillis\\b", "\\bnanoTime\\b", "\\bstatic \\{", "\\bvar\\b", "\\bThread\\b", "\\bObject\\b"};
    private static final Pattern LIBRARY = Pattern.compile("\\b(Math|Arrays|System|Integer|Long)\\.(\\w+)");
    private static final List<String> ALLOWED = List.of("Math.min", "Math.max", "Math.abs", "Math.floorDiv",
            "Arrays.fill", "System.arraycopy");
    private static final Pattern MEMBER = Pattern.compile(
            "^ {4,8}(?:(?:public|private|static|final) )*(?:[\\w\\[\\]]+ )?(\\w+)\\([^)]*\\) \\{$");
    private static final Pattern CLASS = Pattern.compile("\\bclass (\\w+)");

    public static void main(String[] args) throws IOException {
        String member = "";
        String type = "";
        int classes = 0;
        int length = 0;
        for (String line : Files.readAllLines(CLASS_FILE)) {
            checkWords(line.replaceAll("//.*|/\\*\\*.*|^ *\\*.*", ""));
            Matcher aClass = CLASS.matcher(line);
            if (aClass.find()) {
                classes++;
                type = aClass.group(1);
            }
            Matcher aMember = MEMBER.matcher(line);
            if (aMember.find()) {
                member = aMember.group(1);
                length = 0;
            }
            length++;
            Due.holds(member + " is short", length <= 60 || !line.endsWith(";"));
            if (line.contains(" new ") && !line.contains("/**")) {
                Due.holds("objects are made in constructors only, not in " + member, member.equals(type));
            }
        }
        Due.holds("classes in the file: " + classes, classes >= 1 && classes <= 12);
        Due.end();
    }

    private static void checkWords(String line) {
        for (String word : NEVER) {
            Due.holds("no " + word + " in: " + line, !Pattern.compile(word).matcher(line).find());
        }
        Matcher library = LIBRARY.matcher(line);
        while (library.find()) {
            Due.holds(library.group() + " is in the allowed library", ALLOWED.contains(library.group()));
        }
    }
}
