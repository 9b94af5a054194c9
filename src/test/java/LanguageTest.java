import java.io.IOException;
import java.nio.file.Files;
import java.util.ArrayList;
import java.util.List;
import java.util.regex.Matcher;
import java.util.regex.Pattern;

/** Those rules of LANGUAGE.md that can be seen in the text of the class alone. */
public final class LanguageTest {
    private static final String[] BARRED = {
        "->", "::", "\\bfinally\\b", "\\bsynchronized\\b", "\\bassert\\b", "\\bcatch\\b", "\\btry\\b", "\\bvar\\b", "\\bMath\\.\\w+Exact\\b",
        "\\bdouble\\b", "\\bfloat\\b", "\\bSystem\\.(?!arraycopy)", "\\bjava\\.(?!util\\.NoSuchElementException)", "^package\\b", "\\bnative\\b",
        "\\bvolatile\\b", "\\binstanceof\\b", "\\bthis::", "static\\s*\\{", "\\brecord\\b", "@\\w", "\\?\\?", "while\\s*\\(true\\)", "for\\s*\\(;;\\)"};
    private static final String FACE = " feed end fault text corner street walker law council day wall lamp moves preach give years undo log"
        + " walk check far way feast soon worn seen knocked ask walls parted draws goes goers game rests odds shares all around image back count ";
    private static final int MOST_LINES = 60;

    public static void main(String[] args) throws IOException {
        String source = Files.readString(Kit.root().resolve("src/main/java/WallChapels.java"));
        String bare = source.replaceAll("(?s)/\\*.*?\\*/", "").replaceAll("(?m)//.*$", "");
        for (String barred : BARRED) {
            Matcher m = Pattern.compile(barred, Pattern.MULTILINE).matcher(bare);
            Kit.same("no " + barred, m.find(), false);
        }
        for (int i = 0; i < source.length(); i++) {
            if (source.charAt(i) > 126) {
                Kit.same("sign at " + i, source.charAt(i), ' ');
            }
        }
        face(bare);
        methods(bare);
        library(bare);
        fields(bare);
        made(bare);
        Kit.close();
    }

    /** The public members are the face's, and no other method bears such a name. */
    private static void face(String bare) {
        Matcher m = Pattern.compile("(?m)^    public (?!static final int|WallChapels\\(\\))\\w+ (\\w+)\\(").matcher(bare);
        int found = 0;
        while (m.find()) {
            found++;
            Kit.same("of the face: " + m.group(1), FACE.contains(" " + m.group(1) + " "), true);
        }
        Kit.same("methods of the face", found, FACE.trim().split(" ").length);
        Matcher p = Pattern.compile("(?m)^ +private (?:static )?\\w+(?:\\[\\])* (\\w+)\\(").matcher(bare);
        while (p.find()) {
            Kit.same("private, not of the face: " + p.group(1), FACE.contains(" " + p.group(1) + " "), false);
        }
        Matcher open = Pattern.compile("(?m)^(?:    |        )(?!private|public|return|throw|for|if|while|switch|case|default|break|int|long|boolean|this|super|[a-z]+[.(]|[}@/*])\\w+.*\\{$").matcher(bare);
        Kit.same("a member without private", open.find(), false);
    }

    private static void methods(String bare) {
        List<String> lines = new ArrayList<>(List.of(bare.split("\n")));
        int classes = 0;
        int start = -1;
        String indent = "";
        for (int i = 0; i < lines.size(); i++) {
            String line = lines.get(i);
            classes += line.matches(".*\\bclass \\w+ \\{") ? 1 : 0;
            if (start < 0 && line.matches(" +(public|private) .*\\) (throws \\w+ )?\\{")) {
                start = i;
                indent = line.substring(0, line.indexOf('p'));
                Kit.same("parameters at " + line, line.chars().filter(s -> s == ',').count() <= 6, true);
            } else if (start >= 0 && line.equals(indent + "}")) {
                Kit.same("lines of " + lines.get(start).trim(), i - start + 1 <= MOST_LINES, true);
                start = -1;
            }
        }
        Kit.same("classes", classes <= 12, true);
    }

    /** Rules 4, 6 and 10: no library but these functions, one exception with a written text, no other text. */
    private static void library(String bare) {
        String known = " System.arraycopy Integer.bitCount Math.abs Math.floorMod Math.max Math.min ";
        Matcher m = Pattern.compile("\\b([A-Z]\\w*)\\.([a-z]\\w*)").matcher(bare);
        while (m.find()) {
            boolean own = bare.contains("class " + m.group(1) + " {");
            Kit.same("of the library: " + m.group(), own || known.contains(" " + m.group() + " "), true);
        }
        Kit.same("throws", count(bare, "\\bthrow\\b"), 1);
        Kit.same("throws by a written text", count(bare, "throw new NoSuchElementException\\(\"[^\"]*\"\\);"), 1);
        Kit.same("signs of texts", count(bare, "\""), 2);
        Kit.same("texts", count(bare, "\\b(String|StringBuilder|Object|List|ArrayList)\\b"), 0);
    }

    /** Rules 2, 5 and 11: classes inside are private and static, static fields final, few fields a class. */
    private static void fields(String bare) {
        Kit.same("classes inside", count(bare, "\\bclass \\w+"), count(bare, "private static final class \\w+ \\{") + 1);
        Kit.same("public classes", count(bare, "public final class WallChapels \\{"), 1);
        Kit.same("static fields that may change", count(bare, "(?m)^ +(private|public) static (?!final)[^(]*[;=]"), 0);
        String[] parts = bare.split("\\bclass ");
        for (int i = 1; i < parts.length; i++) {
            String name = parts[i].substring(0, parts[i].indexOf(' '));
            Kit.same("fields of " + name, count(parts[i], "(?m)^ +private (?!static)[^(]*(=.*)?;") <= 20, true);
        }
    }

    /** Rule 12: what is made is made once, with the object: in a field, or by the constructor of the acts. */
    private static void made(String bare) {
        for (String line : bare.split("\n")) {
            if (line.matches(".*\\bnew\\b.*")) {
                boolean once = line.matches(" +private final .* = new .*;") || line.contains("kept[i] = new Scene();")
                    || line.contains("throw new NoSuchElementException(");
                Kit.same("made by " + line.trim(), once, true);
            }
        }
    }

    private static int count(String text, String pattern) {
        Matcher m = Pattern.compile(pattern).matcher(text);
        int found = 0;
        while (m.find()) {
            found++;
        }
        return found;
    }
}
