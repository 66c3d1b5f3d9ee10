import java.lang.reflect.Constructor;
import java.lang.reflect.Field;
import java.lang.reflect.Method;
import java.lang.reflect.Modifier;
import java.nio.file.Files;
import java.nio.file.Path;
import java.util.HashSet;
import java.util.Set;
import java.util.regex.Matcher;
import java.util.regex.Pattern;

/** Rules of LANGUAGE.md that show in the class's text or by reflection. Runs in the checkout's root. */
public final class LanguageTest {
    private static final Due DUE = new Due("LanguageTest");

    public static void main(String[] args) throws Exception {
        String source = Files.readString(Path.of("src/main/java/OldBottles.java"));
        String bare = source.replaceAll("(?s)/\\*.*?\\*/", "").replaceAll("//[^\n]*", "").replaceAll("\"[^\"\n]*\"", "\"\"");
        noneOf(bare, "\\b(throw|throws|try|catch|synchronized|assert|package|protected|double|float|volatile)\\b");
        noneOf(bare, "->|::|Exact\\b|System\\.(?!arraycopy\\b)|\\bnew [A-Z]\\w*\\([^)]*\\) *\\{");
        noneOf(bare, "\\.(equals|hashCode|toString|getClass)\\b|\"\" *\\+|\\+ *\"\"");
        imports(bare);
        face();
        inside();
        sizes(bare);
        DUE.is("13 only ASCII", source.chars().filter(c -> c > 126).count(), 0);
        DUE.end();
    }

    private static void noneOf(String text, String pattern) {
        Matcher m = Pattern.compile(pattern).matcher(text);
        DUE.is("none of " + pattern, m.find() ? 1 : 0, 0);
    }

    private static void imports(String text) {
        Matcher m = Pattern.compile("(?m)^import (.*);").matcher(text);
        while (m.find()) {
            DUE.is("4 import " + m.group(1), m.group(1).matches("java\\.util\\.(Arrays|ArrayList|List|Iterator)") ? 1 : 0, 1);
        }
    }

    private static void face() {
        Class<?> c = OldBottles.class;
        DUE.is("1 public final", c.getModifiers() & (Modifier.PUBLIC | Modifier.FINAL), Modifier.PUBLIC | Modifier.FINAL);
        int publicMethods = 0;
        Set<String> faces = new HashSet<>();
        for (Method m : c.getDeclaredMethods()) {
            DUE.is("1 " + m, Modifier.isPublic(m.getModifiers()) || Modifier.isPrivate(m.getModifiers()) ? 1 : 0, 1);
            if (Modifier.isPublic(m.getModifiers())) {
                publicMethods++;
                faces.add(m.getName());
            }
        }
        DUE.is("1 31 methods", publicMethods, 31);
        for (Method m : c.getDeclaredMethods()) {
            DUE.is("1 name of " + m, Modifier.isPrivate(m.getModifiers()) && faces.contains(m.getName()) ? 1 : 0, 0);
        }
        int publicFields = 0;
        for (Field f : c.getDeclaredFields()) {
            DUE.is("1 " + f, Modifier.isPublic(f.getModifiers()) || Modifier.isPrivate(f.getModifiers()) ? 1 : 0, 1);
            publicFields += Modifier.isPublic(f.getModifiers()) ? 1 : 0;
        }
        DUE.is("1 five constants", publicFields, 5);
        for (Constructor<?> k : c.getDeclaredConstructors()) {
            DUE.is("1 the constructor", k.getParameterCount(), 0);
        }
    }

    private static void inside() {
        Class<?>[] all = OldBottles.class.getDeclaredClasses();
        DUE.is("11 some twelve classes", all.length < 12 ? 1 : 0, 1);
        for (Class<?> c : all) {
            DUE.is("2 static: " + c, Modifier.isStatic(c.getModifiers()) ? 1 : 0, 1);
            for (Method m : c.getDeclaredMethods()) {
                DUE.is("11 seven parameters: " + m, m.getParameterCount() <= 7 ? 1 : 0, 1);
            }
            int fields = 0;
            for (Field f : c.getDeclaredFields()) {
                DUE.is("5 " + f, !Modifier.isStatic(f.getModifiers()) || Modifier.isFinal(f.getModifiers()) ? 1 : 0, 1);
                fields += Modifier.isStatic(f.getModifiers()) ? 0 : 1;
            }
            DUE.is("11 twenty fields: " + c, fields <= 20 ? 1 : 0, 1);
        }
    }

    /** Methods end at a brace as deep as they began; the longest stays under sixty lines. */
    private static void sizes(String text) {
        int began = 0, line = 0;
        String indent = "";
        for (String row : text.split("\n")) {
            line++;
            Matcher m = Pattern.compile("^( {4}| {8})(?!static final class)\\S.*\\) \\{$").matcher(row);
            if (m.find() && !row.strip().matches("(if|for|while|switch|else|do)\\b.*")) {
                began = line;
                indent = m.group(1);
            }
            if (began > 0 && row.equals(indent + "}")) {
                DUE.is("11 lines of the method that ends at " + line, line - began < 60 ? 1 : 0, 1);
                began = 0;
            }
        }
    }
}
