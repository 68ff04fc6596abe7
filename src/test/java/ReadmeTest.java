import java.io.IOException;
import java.lang.reflect.Method;
import java.lang.reflect.Modifier;
import java.nio.file.Files;
import java.nio.file.Path;
import java.util.ArrayList;
import java.util.List;
import java.util.regex.Matcher;
import java.util.regex.Pattern;
import java.util.stream.Stream;

/** README.md is true of the class: its calls answer as told there, and it names each call and each test. */
public final class ReadmeTest {
    private static final Check CHECK = new Check();

    /** A call of the page, and the answer behind it, ahead of a colon where more is said. */
    private static final Pattern CALL = Pattern.compile("maker\\.(\\w+)\\(([^)]*)\\);\\s+// ([^:]+)(?::.* (\\S+))?");

    public static void main(String[] args) throws IOException {
        String page = Files.readString(Path.of("README.md"));
        callsOf(page.substring(page.indexOf("```java") + 7, page.indexOf("```\n", page.indexOf("```java"))));
        namesOf(page);
        testsOf(page);
        CHECK.end();
    }

    private static void callsOf(String block) {
        CHECK.promise("README.md, its calls");
        PartMaker maker = new PartMaker();
        String[] lines = block.strip().split("\n");
        CHECK.is("an object is made first", true, () -> lines[0].equals("PartMaker maker = new PartMaker();"));
        for (int i = 1; i < lines.length; i++) {
            String line = lines[i];
            Matcher call = CALL.matcher(line);
            boolean isCall = call.matches();
            CHECK.is(line + " is read", true, () -> isCall);
            if (isCall) {
                CHECK.is(line, true, () -> answerOf(maker, call.group(1), call.group(2)).equals(call.group(3)));
            }
            if (isCall && call.group(1).startsWith("write")) {
                CHECK.is(line + ", octets", true, () -> Check.written(maker).equals(call.group(4)));
            }
        }
        CHECK.is("there are calls", true, () -> lines.length > 5);
    }

    private static String answerOf(PartMaker maker, String name, String told) {
        List<Object> numbers = new ArrayList<>();
        for (String number : told.isEmpty() ? new String[0] : told.split(", ")) {
            numbers.add(Integer.valueOf(number));
        }
        for (Method method : PartMaker.class.getDeclaredMethods()) {
            if (method.getName().equals(name) && Modifier.isPublic(method.getModifiers())) {
                try {
                    return "" + method.invoke(maker, numbers.toArray());
                } catch (ReflectiveOperationException e) {
                    return "" + e.getCause();
                }
            }
        }
        return "no such call";
    }

    private static void namesOf(String page) {
        CHECK.promise("README.md, how an object is used");
        for (Method method : PartMaker.class.getDeclaredMethods()) {
            if (Modifier.isPublic(method.getModifiers())) {
                String name = method.getName();
                CHECK.is(name + " is named", true, () -> page.contains("`" + name + "`") || page.contains("`" + name + "("));
            }
        }
        CHECK.is("512 calls are named", true, () -> page.contains("at most 512 calls"));
        CHECK.is(".ci/run is named", true, () -> page.contains(".ci/run") && Files.isExecutable(Path.of(".ci/run")));
    }

    private static void testsOf(String page) throws IOException {
        CHECK.promise("README.md, its tests");
        int found = 0;
        try (Stream<Path> files = Files.list(Path.of("src/test/java"))) {
            for (Path file : (Iterable<Path>) files::iterator) {
                String name = file.getFileName().toString().replace(".java", "");
                if (name.endsWith("Test")) {
                    found++;
                    CHECK.is(name + " is named", true, () -> page.contains("\n| " + name + " | "));
                }
            }
        }
        int rows = page.split("\n\\| \\w+Test \\| ", -1).length - 1;
        CHECK.due("each row is of a test that is there", found, () -> rows);
    }
}
