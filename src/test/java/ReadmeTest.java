import java.io.File;
import java.io.IOException;
import java.lang.reflect.Method;
import java.lang.reflect.Modifier;
import java.nio.charset.StandardCharsets;
import java.nio.file.Files;
import java.nio.file.Path;
import java.util.Comparator;
import java.util.TreeSet;
import java.util.regex.Matcher;
import java.util.regex.Pattern;
import java.util.stream.Stream;

/** README.md is so when it is followed. */
public final class ReadmeTest {
    private static final String CLASS = "src/main/java/BuildEngine.java";

    public static void main(String[] args) throws IOException, InterruptedException {
        String readme = Files.readString(Path.of("README.md"), StandardCharsets.UTF_8);
        theExample(readme);
        theCalls(readme);
        theTests(readme);
        Check.end();
    }

    /** Writes the program, does what README.md has behind it, and looks at what comes out. */
    private static void theExample(String readme) throws IOException, InterruptedException {
        Check.part("README.md: the example");
        Path place = Files.createTempDirectory("readme");
        try {
            Files.createDirectories(place.resolve(CLASS).getParent());
            Files.copy(Path.of(CLASS), place.resolve(CLASS));
            Files.writeString(place.resolve("Example.java"), fenced(readme, "java"));
            File out = place.resolve("printed").toFile();
            Process process = new ProcessBuilder("sh", "-e", "-c", fenced(readme, "sh"))
                .directory(place.toFile()).redirectErrorStream(true).redirectOutput(out).start();
            Check.due("its exit code", process.waitFor(), 0);
            String printed = Files.readString(out.toPath()).replace("\r", "");
            Check.isTrue("it prints what README.md says, and not:\n" + printed, printed.equals(fenced(readme, "text")));
        } finally {
            try (Stream<Path> all = Files.walk(place)) {
                all.sorted(Comparator.reverseOrder()).map(Path::toFile).forEach(File::delete);
            }
        }
    }

    private static String fenced(String readme, String kind) {
        Matcher matcher = Pattern.compile("(?ms)^```" + kind + "\n(.*?)^```$").matcher(readme);
        Check.isTrue("there is a part ```" + kind, matcher.find());
        return matcher.group(1);
    }

    private static void theCalls(String readme) {
        Check.part("README.md: the calls");
        for (Method method : BuildEngine.class.getDeclaredMethods()) {
            if (Modifier.isPublic(method.getModifiers())) {
                Check.isTrue(method.getName() + " is told of", readme.contains("`" + method.getName() + "`"));
            }
        }
    }

    private static void theTests(String readme) throws IOException {
        Check.part("README.md: the tests");
        TreeSet<String> told = new TreeSet<>();
        Matcher matcher = Pattern.compile("(?m)^\\| `(\\w+Test)` \\|").matcher(readme);
        while (matcher.find()) {
            told.add(matcher.group(1));
        }
        TreeSet<String> found = new TreeSet<>();
        try (Stream<Path> all = Files.list(Path.of("src/test/java"))) {
            for (Path file : (Iterable<Path>) all::iterator) {
                String name = file.getFileName().toString();
                if (name.endsWith("Test.java")) {
                    found.add(name.substring(0, name.length() - ".java".length()));
                }
            }
        }
        Check.isTrue("the tests are " + found + ", told are " + told, found.equals(told));
    }
}
