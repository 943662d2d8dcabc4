import java.io.IOException;
import java.lang.reflect.Field;
import java.lang.reflect.Method;
import java.lang.reflect.Modifier;
import java.nio.file.Files;
import java.nio.file.Path;
import java.util.List;
import java.util.regex.Matcher;
import java.util.regex.Pattern;

/** Rules of ../shared/LANGUAGE.md that can be seen in the text of SleepRope.java. */
public final class LanguageTest {
    private static final List<String> FACE = List.of("feed", "end", "dorm", "fault", "has", "letter", "boy", "at", "knot",
        "dream", "tug", "law", "go", "dreams", "wake", "tie", "slack", "swap", "undo", "seed", "feels", "wakes", "least",
        "bad", "best", "exchange", "lay", "two", "hear", "pulled", "cut", "walk", "beds", "nights", "image", "octet",
        "on", "status");

    private LanguageTest() {
    }

    private static int found(String pattern, String in) {
        Matcher m = Pattern.compile(pattern).matcher(in);
        int count = 0;
        while (m.find()) {
            count++;
        }
        return count;
    }

    public static void main(String[] args) throws IOException {
        String source = Files.readString(Path.of("src/main/java/SleepRope.java"));
        Due.is("signs above 127", found("[^\\x00-\\x7f]", source), 0);
        String code = source.replaceAll("(?s)/\\*.*?\\*/", "").replaceAll("//[^\n]*", "");
        String bare = code.replaceAll("\"[^\"\n]*\"", "\"\"").replaceAll("'.'", "' '");
        String[] banned = {"throw", "try", "catch", "synchronized", "assert", "throws", "package", "lambda", "equals",
            "hashCode", "System\\.(?!arraycopy)", "Random", "Thread", "Float", "Double", "var", "protected",
            "instanceof", "double", "float"};
        for (String word : banned) {
            Due.is("uses " + word, found("\\b" + word + "\\b", bare), 0);
        }
        Due.is("arrows and references", found("->|::", bare), 0);
        Due.is("texts joined by +", found("\"\"\\s*\\+|\\+\\s*\"\"", bare), 0);
        Due.is("imports", found("\\bimport\\b", bare), found("\\bimport java\\.util\\.(Arrays|ArrayList|List);", bare));
        Due.is("static fields are final", found("(?m)^ *(private )?static (?!final)\\w[\\w\\[\\]]* \\w+( =|;)", bare), 0);
        Due.is("static blocks", found("\\bstatic\\s*\\{", bare), 0);
        Due.is("public members", found("\\bpublic\\b", bare), 1 + 1 + 1 + FACE.size());
        Due.is("classes inside are private and static", found("\\bclass\\b", bare),
            1 + found("private static final class", bare));
        Due.is("at most some twelve", found("\\bclass\\b", bare) <= 12, true);
        for (String name : FACE) {
            Due.is("only one " + name, found("(?m)^ +(public |private )?(static )?(int|boolean|void) " + name + "\\(",
                bare), 1);
        }
        methodsAreShort(source);
        nothingElseIsSeen();
        Due.end();
    }

    // Rule 1, of the compiled class: all that is not of the document's face is private, each class inside is static.
    private static void nothingElseIsSeen() {
        Class<?> it = SleepRope.class;
        Due.is("public and final", it.getModifiers(), Modifier.PUBLIC | Modifier.FINAL);
        for (Method m : it.getDeclaredMethods()) {
            boolean isFace = FACE.contains(m.getName());
            Due.is(m.getName(), m.getModifiers() & (Modifier.PUBLIC | Modifier.PROTECTED | Modifier.PRIVATE | Modifier.STATIC),
                isFace ? Modifier.PUBLIC : m.getModifiers() & Modifier.STATIC | Modifier.PRIVATE);
        }
        for (Field f : it.getDeclaredFields()) {
            boolean isFace = f.getName().equals("NONE");
            Due.is(f.getName(), f.getModifiers() & (Modifier.PUBLIC | Modifier.PROTECTED | Modifier.PRIVATE),
                isFace ? Modifier.PUBLIC : Modifier.PRIVATE);
        }
        Due.is("constructors", it.getDeclaredConstructors().length, 1);
        for (Class<?> inside : it.getDeclaredClasses()) {
            Due.is(inside.getName(), Modifier.isStatic(inside.getModifiers()), true);
            Due.is("fields of " + inside.getName(), inside.getDeclaredFields().length <= 20, true);
        }
    }

    // A method begins with a head that ends in ") {" and ends with a brace that stands as far in.
    private static void methodsAreShort(String source) {
        String[] lines = source.split("\n");
        for (int i = 0; i < lines.length; i++) {
            Matcher head = Pattern.compile("^( {4}| {8})(?! )(?!\\}|if|for|while|switch)[\\w .\\[\\]]+\\((.*)\\) \\{$")
                .matcher(lines[i]);
            if (head.matches()) {
                int end = i;
                while (!lines[end].equals(head.group(1) + "}")) {
                    end++;
                }
                Due.is("short: " + lines[i].trim(), end - i <= 60, true);
                Due.is("parameters: " + lines[i].trim(), head.group(2).split(",").length <= 7, true);
            }
        }
    }
}
