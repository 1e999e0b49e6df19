import java.io.IOException;
import java.lang.reflect.InvocationTargetException;
import java.lang.reflect.Method;
import java.lang.reflect.Modifier;
import java.nio.file.Files;
import java.nio.file.Path;
import java.util.ArrayList;
import java.util.List;
import java.util.regex.Matcher;
import java.util.regex.Pattern;

/** README.md: its example is run, its two methods are the ones below, and it names each statement and each call. */
public final class ReadmeTest {
    private static final Pattern CALL = Pattern.compile("plough\\.(\\w+)\\((.*)\\); +// (-?\\w+).*");
    private static final Pattern TYPE = Pattern.compile("type\\(plough, \"(.*)\"\\);");

    public static void main(String[] args) throws IOException, IllegalAccessException {
        Path root = Path.of(args[0]);
        String page = Files.readString(root.resolve("README.md"));
        List<String> blocks = blocks(page);
        Check.is("blocks of Java", 2, blocks.size());
        String own = Files.readString(root.resolve("src/test/java/ReadmeTest.java")).replace("\n    ", "\n");
        Check.is("the two methods are those of this test", true, own.contains("\n" + blocks.get(0)));
        Check.is("answers in the example", 17, run(blocks.get(1)));
        for (Method method : SnowPlough.class.getDeclaredMethods()) {
            if (Modifier.isPublic(method.getModifiers())) {
                Check.is(method.getName() + " is named", true, page.contains("`" + method.getName() + "`"));
            }
        }
        for (String statement : statements(Files.readString(Path.of(args[1]).resolve("DOC.md")))) {
            Check.is(statement + " is named", true, page.contains("`" + statement + "`"));
        }
        Check.end("ReadmeTest");
    }

    private static List<String> blocks(String page) {
        List<String> blocks = new ArrayList<>();
        Matcher matcher = Pattern.compile("```java\n(.*?)```", Pattern.DOTALL).matcher(page);
        while (matcher.find()) {
            blocks.add(matcher.group(1));
        }
        return blocks;
    }

    private static int run(String example) throws IllegalAccessException {
        SnowPlough plough = new SnowPlough();
        int answers = 0;
        for (String line : example.split("\n")) {
            Matcher typed = TYPE.matcher(line);
            Matcher called = CALL.matcher(line);
            if (typed.matches()) {
                type(plough, typed.group(1));
            } else if (called.matches()) {
                Check.same(line, called.group(3), answer(plough, called.group(1), called.group(2)));
                answers++;
            } else {
                Check.same("line", "SnowPlough plough = new SnowPlough();", line);
            }
        }
        return answers;
    }

    private static Object answer(SnowPlough plough, String name, String row) throws IllegalAccessException {
        String[] texts = row.isEmpty() ? new String[0] : row.split(", ");
        Object[] values = new Object[texts.length];
        for (int i = 0; i < texts.length; i++) {
            boolean truth = texts[i].equals("true") || texts[i].equals("false");
            values[i] = truth ? (Object) Boolean.valueOf(texts[i]) : Integer.valueOf(texts[i]);
        }
        try {
            return named(name).invoke(plough, values);
        } catch (InvocationTargetException e) {
            return e.getCause().getClass().getSimpleName();
        }
    }

    private static Method named(String name) {
        for (Method method : SnowPlough.class.getDeclaredMethods()) {
            if (method.getName().equals(name)) {
                return method;
            }
        }
        throw new IllegalArgumentException(name);
    }

    /** The statements as section 1 of the document lists them. */
    private static List<String> statements(String document) {
        List<String> list = new ArrayList<>();
        int from = document.indexOf("The statements are:");
        for (String line : document.substring(from, document.indexOf("FROM, TO and NODE", from)).split("\n")) {
            Matcher matcher = Pattern.compile("     ([a-z]+( [A-Z]+)+( \\[oneway\\])?).*").matcher(line);
            if (matcher.matches()) {
                list.add(matcher.group(1));
            }
        }
        Check.is("statements", 8, list.size());
        return list;
    }

    static void type(SnowPlough plough, String text) {
        for (int i = 0; i < text.length(); i += 20) {
            plough.append(word(text, i), word(text, i + 4), word(text, i + 8), word(text, i + 12), word(text, i + 16));
        }
        plough.truncate(text.length());
    }

    static int word(String text, int from) {
        int word = 0;
        for (int i = from; i < from + 4; i++) {
            word = word << 8 | (i < text.length() ? text.charAt(i) : ' ');
        }
        return word;
    }
}
