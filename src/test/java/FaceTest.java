import java.io.IOException;
import java.lang.reflect.Constructor;
import java.lang.reflect.Field;
import java.lang.reflect.Member;
import java.lang.reflect.Method;
import java.lang.reflect.Modifier;
import java.nio.file.Files;
import java.nio.file.Path;
import java.util.ArrayList;
import java.util.Collections;
import java.util.List;

/** The class has the document's face and nothing beside it, and its text keeps to rules that can be seen in it. */
public final class FaceTest {
    public static void main(String[] args) throws IOException {
        Path root = Path.of(args[0]);
        Path shared = Path.of(args[1]);
        Check.same("face", sorted(promised(Files.readString(shared.resolve("DOC.md")))), sorted(present()));
        Check.is("NONE", -1, SnowPlough.NONE);
        Check.is("PARSE_ERROR", -4, SnowPlough.PARSE_ERROR);
        Check.is("public", true, Modifier.isPublic(SnowPlough.class.getModifiers()));
        Check.is("final", true, Modifier.isFinal(SnowPlough.class.getModifiers()));
        otherMembersArePrivate();
        noNameIsUsedTwice();
        textKeepsToRules(Files.readString(root.resolve("src/main/java/SnowPlough.java")));
        Check.end("FaceTest");
    }

    /** The lines of the document's face, each without spaces. */
    private static List<String> promised(String document) {
        List<String> lines = new ArrayList<>();
        int from = document.indexOf("public final class SnowPlough {");
        int to = document.indexOf("\n}", from);
        for (String line : document.substring(from, to).split("\n")) {
            if (line.startsWith("    public ")) {
                String names = line.replaceAll("(int|boolean) [a-zA-Z]+([,)])", "$1$2");
                lines.add(names.replace(" ", "").replace(";", ""));
            }
        }
        return lines;
    }

    private static List<String> present() {
        List<String> lines = new ArrayList<>();
        for (Field field : SnowPlough.class.getFields()) {
            String value = field.getName().equals("NONE") ? "=-1" : "=-4";
            lines.add("publicstaticfinal" + field.getType().getSimpleName() + field.getName() + value);
        }
        for (Constructor<?> constructor : SnowPlough.class.getConstructors()) {
            lines.add("publicSnowPlough" + types(constructor.getParameterTypes(), "(", ")"));
        }
        for (Method method : SnowPlough.class.getDeclaredMethods()) {
            if (Modifier.isPublic(method.getModifiers())) {
                String thrown = method.getExceptionTypes().length == 0 ? ""
                        : "throws" + types(method.getExceptionTypes(), "", "");
                lines.add("public" + method.getReturnType().getSimpleName() + method.getName()
                        + types(method.getParameterTypes(), "(", ")") + thrown);
            }
        }
        return lines;
    }

    private static String types(Class<?>[] types, String open, String close) {
        List<String> names = new ArrayList<>();
        for (Class<?> type : types) {
            names.add(type.getSimpleName());
        }
        return open + String.join(",", names) + close;
    }

    private static String sorted(List<String> lines) {
        Collections.sort(lines);
        return String.join("\n", lines);
    }

    private static void otherMembersArePrivate() {
        List<Member> members = new ArrayList<>();
        Collections.addAll(members, SnowPlough.class.getDeclaredFields());
        Collections.addAll(members, SnowPlough.class.getDeclaredMethods());
        Collections.addAll(members, SnowPlough.class.getDeclaredConstructors());
        for (Member member : members) {
            boolean closed = Modifier.isPublic(member.getModifiers()) || Modifier.isPrivate(member.getModifiers());
            Check.is(member.getName() + " is public or private", true, closed || member.isSynthetic());
        }
        for (Class<?> inside : SnowPlough.class.getDeclaredClasses()) {
            Check.is(inside.getName() + " is static", true, Modifier.isStatic(inside.getModifiers()));
            Check.is(inside.getName() + " is not public", false, Modifier.isPublic(inside.getModifiers()));
            int fields = 0;
            for (Field field : inside.getDeclaredFields()) {
                fields += Modifier.isStatic(field.getModifiers()) ? 0 : 1;
            }
            Check.is(inside.getName() + " has some twenty fields", true, fields <= 20);
        }
    }

    private static void noNameIsUsedTwice() {
        List<String> names = new ArrayList<>();
        for (Method method : SnowPlough.class.getDeclaredMethods()) {
            if (Modifier.isPublic(method.getModifiers())) {
                names.add(method.getName());
            }
        }
        for (Class<?> inside : SnowPlough.class.getDeclaredClasses()) {
            for (Method method : inside.getDeclaredMethods()) {
                Check.is(inside.getName() + "." + method.getName(), false, names.contains(method.getName()));
            }
        }
    }

    private static void textKeepsToRules(String text) {
        String code = text.replaceAll("(?s)/\\*.*?\\*/", "").replaceAll("//[^\n]*", "");
        for (String word : new String[] {"->", "::", "try", "catch", "finally", "synchronized", "assert", "var",
                "package", "System.nanoTime", "Random", "Thread", "String.format", "boolean[]"}) {
            boolean found = Character.isLetter(word.charAt(0))
                    ? code.matches("(?s).*\\b" + word.replace(".", "\\.").replace("[]", "\\[\\]") + "(?!\\w).*")
                    : code.contains(word);
            Check.is("the program's text has " + word, false, found);
        }
        for (String line : code.split("\n")) {
            if (line.startsWith("import ")) {
                boolean known = line.equals("import java.util.Arrays;")
                        || line.equals("import java.util.NoSuchElementException;");
                Check.is(line, true, known);
            }
        }
        methodsAreShort(code);
    }

    private static void methodsAreShort(String code) {
        int length = 0;
        String name = "";
        for (String line : code.split("\n")) {
            boolean opens = line.matches("( {4}| {8})[a-zA-Z].*\\) ?(throws .*)?\\{");
            if (opens) {
                name = line.trim();
                length = 0;
                Check.is(name + " has at most seven parameters", true, line.split(",").length <= 9);
            }
            length++;
            if (line.equals("    }") || line.equals("        }")) {
                Check.is(name + " is short", true, name.isEmpty() || length <= 60);
                name = "";
            }
        }
    }
}
