import java.io.IOException;
import java.lang.reflect.Executable;
import java.lang.reflect.Field;
import java.lang.reflect.Modifier;
import java.nio.file.Files;
import java.nio.file.Path;
import java.util.ArrayList;
import java.util.List;
import java.util.regex.Matcher;
import java.util.regex.Pattern;

/** Those rules of LANGUAGE.md that can be seen from the class and its source; run from the project's folder. */
public final class LanguageTest {
    private static final Path SOURCE = Path.of("src/main/java/StemBeams.java");

    public static void main(String[] args) throws IOException {
        List<Class<?>> classes = new ArrayList<>(List.of(StemBeams.class.getDeclaredClasses()));
        for (Class<?> c : classes) {
            inside(c);
        }
        classes.add(StemBeams.class);
        for (Class<?> c : classes) {
            fields(c);
            parameters(c);
        }
        Check.about("LANGUAGE.md, rule 11", "at most some twelve classes");
        Check.isTrue("there are " + classes.size(), classes.size() <= 12);
        String code = withoutTexts(Files.readString(SOURCE));
        words(code);
        methodLengths(code);
        Check.end();
    }

    private static void inside(Class<?> c) {
        Check.about("LANGUAGE.md, rules 1 and 2", "classes inside are static, private or package-visible");
        int mods = c.getModifiers();
        Check.isTrue(c.getName() + " is static", Modifier.isStatic(mods));
        Check.isTrue(c.getName() + " can't be seen", !Modifier.isPublic(mods) && !Modifier.isProtected(mods));
        Check.same(c.getName() + " has no classes inside", c.getDeclaredClasses().length, 0);
    }

    private static void fields(Class<?> c) {
        Check.about("LANGUAGE.md, rules 5 and 11", "static fields are final; some twenty others in a class");
        int own = 0;
        for (Field f : c.getDeclaredFields()) {
            int mods = f.getModifiers();
            own += Modifier.isStatic(mods) ? 0 : 1;
            Check.isTrue(f + " is final, if it is static", !Modifier.isStatic(mods) || Modifier.isFinal(mods));
        }
        Check.isTrue(c.getName() + " has " + own + " fields", own <= 20);
    }

    private static void parameters(Class<?> c) {
        Check.about("LANGUAGE.md, rule 11", "a method takes at most seven parameters");
        List<Executable> all = new ArrayList<>(List.of(c.getDeclaredMethods()));
        all.addAll(List.of(c.getDeclaredConstructors()));
        for (Executable e : all) {
            Check.isTrue(e.toString(), e.getParameterCount() <= 7);
        }
    }

    private static String withoutTexts(String source) {
        return source.replaceAll("(?s)/\\*.*?\\*/", "").replaceAll("//[^\n]*", "").replaceAll("\"[^\"\n]*\"", "\"\"");
    }

    private static void words(String code) {
        Check.about("LANGUAGE.md, rules 2, 4, 5, 6 and 13", "what the program does without");
        for (String word : new String[] {
            "package", "import", "try", "catch", "finally", "synchronized", "assert", "static\\s*\\{", "->", "::",
            "\\w+Exact", "System", "Thread", "Random", "equals", "hashCode", "toString", "double", "float"}) {
            String whole = Character.isLetter(word.charAt(0)) ? "\\b" + word : word;
            Check.isTrue("no " + word, !Pattern.compile(whole + (word.matches("\\w+") ? "\\b" : "")).matcher(code).find());
        }
        Check.about("LANGUAGE.md, rule 6 and promise 20", "share throws an ArithmeticException, nothing else throws");
        Matcher thrown = Pattern.compile("throw new (\\w+)").matcher(code);
        int many = 0;
        while (thrown.find()) {
            many++;
            Check.isTrue("throws " + thrown.group(1), thrown.group(1).equals("ArithmeticException"));
        }
        Check.same("throws, both in share", many, 2);
    }

    /** Counts the lines of every method, told by how deep it is indented: four blanks, or eight in a class inside. */
    private static void methodLengths(String code) {
        Check.about("LANGUAGE.md, rule 11", "methods stay short, some sixty lines");
        String[] lines = code.split("\n");
        int methods = 0;
        for (int i = 0; i < lines.length; i++) {
            Matcher head = Pattern.compile("((?: {4}){1,2})[A-Za-z].*\\(.*\\).*\\{").matcher(lines[i]);
            if (!head.matches() || lines[i].contains(" class ") || lines[i].matches(" {8}(if|for|while|switch|do)\\b.*")) {
                continue;
            }
            int end = i;
            while (end < lines.length && !lines[end].equals(head.group(1) + "}")) {
                end++;
            }
            methods++;
            Check.isTrue("ends within 60 lines: " + lines[i].trim(), end - i < 60);
        }
        Check.isTrue("methods were found: " + methods, methods > 22);
    }
}
