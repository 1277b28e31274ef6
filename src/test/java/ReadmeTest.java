import java.io.IOException;
import java.lang.reflect.Method;
import java.lang.reflect.Modifier;
import java.net.URL;
import java.net.URLClassLoader;
import java.nio.file.Files;
import java.nio.file.Path;
import java.util.ArrayList;
import java.util.List;
import java.util.TreeSet;
import java.util.function.BiConsumer;
import java.util.function.Consumer;
import java.util.function.ToIntFunction;
import java.util.regex.Matcher;
import java.util.regex.Pattern;
import java.util.stream.Stream;
import javax.tools.ToolProvider;

/**
 * What README.md shows is true: its Java is compiled as it stands, its calls are made on one house from the
 * first to the last, and each must give the answer, or throw the exception, that stands behind it.
 */
public final class ReadmeTest {
    private static final Checks CHECKS = new Checks();
    private static final Pattern SHOWN =
        Pattern.compile("((?:house\\.|type\\(house, ).*\\));\\s+// (NONE|-?\\d+|throws \\w+Exception)(: .+)?");
    private static final String NEW_HOUSE = "KeyblockHouse house = new KeyblockHouse();";

    private final List<String> members = new ArrayList<>();
    private final List<String> calls = new ArrayList<>();
    private final List<String> answers = new ArrayList<>();

    public static void main(String[] args) throws Exception {
        Path page = Path.of("README.md");
        ReadmeTest test = new ReadmeTest();
        test.read(Files.readAllLines(page));
        test.showsEachCall();
        test.makeCalls();
        namesEachTest(Files.readString(page));
        CHECKS.finish("ReadmeTest");
    }

    // ---- what the page shows

    private void read(List<String> page) {
        List<String> block = null;
        int newHouses = 0;
        for (String row : page) {
            if (row.equals("```java")) {
                block = new ArrayList<>();
            } else if (row.equals("```") && block != null) {
                newHouses += keep(block);
                block = null;
            } else if (block != null) {
                block.add(row);
            }
        }
        CHECKS.due("the page makes one house", newHouses, 1);
    }

    /** A block that declares something stands as it is; of others each row is a call with its answer. */
    private int keep(List<String> block) {
        int newHouses = 0;
        if (!block.isEmpty() && block.get(0).startsWith("static ")) {
            members.addAll(block);
            return 0;
        }
        for (String row : block) {
            Matcher shown = SHOWN.matcher(row);
            if (row.equals(NEW_HOUSE) && calls.isEmpty()) {
                newHouses++;
            } else if (shown.matches()) {
                calls.add(shown.group(1));
                answers.add(shown.group(2).replace("NONE", "-1").replace("throws ", ""));
            } else {
                CHECKS.due("a row with an answer", row, "a call // its answer");
            }
        }
        return newHouses;
    }

    /** Each call of the face is shown with an answer, and each exception with a call. */
    private void showsEachCall() {
        TreeSet<String> shown = new TreeSet<>();
        for (String call : calls) {
            shown.add(call.startsWith("type(") ? "letter" : call.replaceAll("house\\.(\\w+)\\(.*", "$1"));
        }
        TreeSet<String> face = new TreeSet<>();
        for (Method method : KeyblockHouse.class.getDeclaredMethods()) {
            if (Modifier.isPublic(method.getModifiers())) {
                face.add(method.getName());
            }
        }
        CHECKS.due("calls that are shown", shown, face);
        TreeSet<String> refusals = new TreeSet<>(answers);
        for (String name : new String[] {"IndexOutOfBoundsException", "IllegalArgumentException",
            "IllegalStateException"}) {
            CHECKS.due("the page shows " + name, refusals.contains(name), true);
        }
    }

    // ---- the calls are made

    private void makeCalls() throws Exception {
        Path folder = Files.createTempDirectory("readme");
        try {
            Path source = folder.resolve("ReadmeRun.java");
            Files.writeString(source, asClass());
            int compiled = ToolProvider.getSystemJavaCompiler().run(null, null, null, "-encoding", "UTF-8",
                "-cp", System.getProperty("java.class.path"), "-d", folder.toString(), source.toString());
            CHECKS.due("the page's Java compiles, exit code", compiled, 0);
            if (compiled == 0) {
                run(folder);
            }
        } finally {
            remove(folder);
        }
    }

    private String asClass() {
        StringBuilder text = new StringBuilder("import java.util.function.*;\n"
            + "public final class ReadmeRun\n"
            + "implements Consumer<BiConsumer<KeyblockHouse, ToIntFunction<KeyblockHouse>>> {\n");
        for (String member : members) {
            text.append(member).append('\n');
        }
        text.append("public void accept(BiConsumer<KeyblockHouse, ToIntFunction<KeyblockHouse>> due) {\n")
            .append("KeyblockHouse made = new KeyblockHouse();\n");
        for (String call : calls) {
            text.append("due.accept(made, house -> ").append(call).append(");\n");
        }
        return text.append("}\n}\n").toString();
    }

    private void run(Path folder) throws Exception {
        List<String> got = new ArrayList<>();
        try (URLClassLoader loader = new URLClassLoader(new URL[] {folder.toUri().toURL()},
            ReadmeTest.class.getClassLoader())) {
            consumer(loader).accept((house, call) -> got.add(Checks.answer(house, call)));
        }
        CHECKS.due("calls made", got.size(), calls.size());
        for (int i = 0; i < calls.size() && i < got.size(); i++) {
            CHECKS.due("README.md, call " + i + ", " + calls.get(i), got.get(i), answers.get(i));
        }
    }

    @SuppressWarnings("unchecked")
    private static Consumer<BiConsumer<KeyblockHouse, ToIntFunction<KeyblockHouse>>> consumer(
            ClassLoader loader) throws Exception {
        return (Consumer<BiConsumer<KeyblockHouse, ToIntFunction<KeyblockHouse>>>)
            loader.loadClass("ReadmeRun").getDeclaredConstructor().newInstance();
    }

    private static void remove(Path folder) throws IOException {
        try (Stream<Path> files = Files.list(folder)) {
            for (Path file : (Iterable<Path>) files::iterator) {
                Files.delete(file);
            }
        }
        Files.delete(folder);
    }

    // ---- the tests that the page names

    private static void namesEachTest(String page) throws IOException {
        TreeSet<String> named = new TreeSet<>();
        Matcher names = Pattern.compile("`(\\w+Test)`").matcher(page);
        while (names.find()) {
            named.add(names.group(1));
        }
        TreeSet<String> there = new TreeSet<>();
        try (Stream<Path> files = Files.list(Path.of("src/test/java"))) {
            files.map(file -> file.getFileName().toString()).filter(name -> name.endsWith("Test.java"))
                .forEach(name -> there.add(name.replace(".java", "")));
        }
        CHECKS.due("tests that the page names", named, there);
    }
}
