import java.io.IOException;
import java.lang.reflect.Constructor;
import java.lang.reflect.Field;
import java.lang.reflect.Method;
import java.lang.reflect.Modifier;
import java.nio.file.Files;
import java.nio.file.Path;
import java.util.Set;
import java.util.TreeSet;

/** The public face, line by line as it stands in the document: neither more nor less, nor with other types. */
public final class FaceTest {
    private static final Due DUE = new Due("FaceTest");

    public static void main(String[] args) throws IOException {
        Set<String> asked = new TreeSet<>();
        for (String line : face(Files.readString(Path.of("../shared/DOC.md"))).split("\n")) {
            read(line.strip(), asked);
        }
        Set<String> there = there();
        for (String member : asked) {
            DUE.is("there is " + member, there.contains(member) ? 1 : 0, 1);
        }
        for (String member : there) {
            DUE.is("the document asks for " + member, asked.contains(member) ? 1 : 0, 1);
        }
        DUE.is("members, the class, and its constructor", asked.size(), 38);
        DUE.end();
    }

    private static String face(String document) {
        String begins = "```java\n";
        int from = document.indexOf(begins);
        int till = document.indexOf("```", from + begins.length());
        return from < 0 || till < 0 ? "" : document.substring(from + begins.length(), till);
    }

    private static void read(String line, Set<String> members) {
        if (line.startsWith("public final class ")) {
            members.add(line.replace(" {", ""));
        } else if (line.startsWith("public static final ")) {
            String type = line.split(" ")[3];
            String constants = line.substring(line.indexOf(type) + type.length()).replace(";", "");
            for (String constant : constants.split(",")) {
                members.add("public static final " + type + " " + constant.strip().replaceAll("L$", ""));
            }
        } else if (line.startsWith("public ")) {
            members.add(line.replaceAll("(int|long) \\w+(?=[,)])", "$1").replace(";", ""));
        }
    }

    private static Set<String> there() {
        Class<?> c = OldBottles.class;
        Set<String> members = new TreeSet<>();
        members.add(Modifier.toString(c.getModifiers()) + " class " + c.getName());
        for (Field f : c.getDeclaredFields()) {
            if (!Modifier.isPrivate(f.getModifiers())) {
                members.add(Modifier.toString(f.getModifiers()) + " " + f.getType() + " " + f.getName() + " = " + value(f));
            }
        }
        for (Constructor<?> k : c.getDeclaredConstructors()) {
            if (!Modifier.isPrivate(k.getModifiers())) {
                members.add(Modifier.toString(k.getModifiers()) + " " + c.getName() + types(k.getParameterTypes()));
            }
        }
        for (Method m : c.getDeclaredMethods()) {
            if (!Modifier.isPrivate(m.getModifiers())) {
                String says = Modifier.toString(m.getModifiers()) + " " + m.getReturnType() + " " + m.getName();
                members.add(says + types(m.getParameterTypes()));
            }
        }
        return members;
    }

    private static String value(Field f) {
        try {
            return String.valueOf(f.get(null));
        } catch (IllegalAccessException e) {
            return "out of reach";
        }
    }

    private static String types(Class<?>[] types) {
        StringBuilder says = new StringBuilder("(");
        for (int i = 0; i < types.length; i++) {
            says.append(i == 0 ? "" : ", ").append(types[i]);
        }
        return says.append(")").toString();
    }
}
