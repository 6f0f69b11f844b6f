import java.io.IOException;
import java.lang.reflect.Method;
import java.lang.reflect.Modifier;
import java.nio.file.Files;
import java.nio.file.Path;
import java.util.List;
import java.util.Set;
import java.util.TreeSet;
import java.util.regex.Matcher;
import java.util.regex.Pattern;

/** Rules of LANGUAGE.md that can be read off the source and the compiled class. */
public final class SourceTest {
    private static final Check CHECK = new Check("SourceTest");
    private static final Path SOURCE = Path.of("src/main/java/BeaconWall.java");

    public static void main(String[] args) throws IOException {
        String source = Files.readString(SOURCE);
        String code = source.replaceAll("(?s)/\\*.*?\\*/", "").replaceAll("//[^\n]*", "")
            .replaceAll("\"[^\"\n]*\"", "\"\"").replaceAll("'[^'\n]*'", "' '");
        forbiddenWords(code);
        classes(code);
        names();
        lengths(code);
        for (int i = 0; i < source.length(); i++) {
            if (source.charAt(i) > 126) {
                CHECK.due("a sign beyond 126 at " + i, source.charAt(i), 126);
            }
        }
        CHECK.finish();
    }

    private static void forbiddenWords(String code) {
        for (String word : List.of("throw", "throws", "try", "catch", "synchronized", "assert", "package", "->", "::", "protected",
            "Exact", "hashCode", "toString", "System\\.(?!arraycopy)", "Object", "var", "volatile", "native")) {
            String pattern = Character.isLetter(word.charAt(0)) ? "\\b" + word : word;
            Matcher m = Pattern.compile(word.endsWith(")") ? pattern : pattern + (word.matches("\\w+") ? "\\b" : "")).matcher(code);
            CHECK.due("the word " + word, m.find(), false);
        }
        Matcher imports = Pattern.compile("import ([\\w.]+);").matcher(code);
        while (imports.find()) {
            CHECK.due("import " + imports.group(1), imports.group(1).equals("java.util.Arrays"), true);
        }
        Matcher statics = Pattern.compile("static (?!final )\\w+(\\[\\])? \\w+ *[=;]").matcher(code);
        CHECK.due("a static field that is not final", statics.find(), false);
    }

    private static void classes(String code) {
        Matcher m = Pattern.compile("\\bclass \\w+").matcher(code);
        int count = 0;
        while (m.find()) {
            count++;
        }
        CHECK.due("at most twelve classes", count <= 12, true);
        for (Class<?> inner : BeaconWall.class.getDeclaredClasses()) {
            CHECK.due(inner.getSimpleName() + " is static", Modifier.isStatic(inner.getModifiers()), true);
            CHECK.due(inner.getSimpleName() + " is private", Modifier.isPrivate(inner.getModifiers()), true);
        }
    }

    private static void names() {
        Set<String> face = new TreeSet<>();
        for (Method m : BeaconWall.class.getDeclaredMethods()) {
            if (Modifier.isPublic(m.getModifiers())) {
                face.add(m.getName());
            } else {
                CHECK.due(m.getName() + " is private", Modifier.isPrivate(m.getModifiers()), true);
            }
        }
        CHECK.due("the methods of the face", face.size(), 43);
        for (Method m : BeaconWall.class.getDeclaredMethods()) {
            CHECK.due("parameters of " + m.getName(), m.getParameterCount() <= 7, true);
            CHECK.due(m.getName() + " is not a public name", !Modifier.isPublic(m.getModifiers()) && face.contains(m.getName()), false);
        }
        for (Class<?> inner : BeaconWall.class.getDeclaredClasses()) {
            for (Method m : inner.getDeclaredMethods()) {
                CHECK.due(m.getName() + " is not a public name", face.contains(m.getName()), false);
                CHECK.due("parameters of " + m.getName(), m.getParameterCount() <= 7, true);
            }
        }
        for (var f : BeaconWall.class.getDeclaredFields()) {
            boolean open = f.getName().equals("NONE");
            CHECK.due(f.getName() + " is private", Modifier.isPrivate(f.getModifiers()), !open);
        }
    }

    private static void lengths(String code) {
        String[] lines = code.split("\n");
        int began = -1;
        for (int i = 0; i < lines.length; i++) {
            if (lines[i].matches(" {4,8}[\\w<].*\\) \\{") && !lines[i].trim().matches("(if|for|while|switch|else|}).*")) {
                began = i;
            }
            if (began >= 0 && lines[i].matches(" {4,8}}")) {
                CHECK.due("the length of the method at line " + (began + 1), i - began < 60, true);
                began = -1;
            }
        }
    }
}
