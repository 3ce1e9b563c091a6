import java.io.File;
import java.lang.reflect.Method;
import java.lang.reflect.Modifier;
import java.nio.file.Files;
import java.nio.file.Path;
import java.util.ArrayList;
import java.util.Comparator;
import java.util.List;
import java.util.regex.Matcher;
import java.util.regex.Pattern;
import java.util.stream.Stream;

/** README.md holds: its example tells what stands below it, its table has each call once, its tests are there. */
public final class ReadmeTest {
    private static int wrong = 0;

    private static void due(boolean is, String what) {
        if (is) return;
        wrong++;
        System.out.println(what);
    }

    public static void main(String[] args) throws Exception {
        String main = args.length > 0 ? args[0] : "src/main/java/HatchHouse.java";
        String readme = Files.readString(Path.of("README.md"));
        example(readme, main);
        calls(readme);
        tests(readme);
        if (wrong > 0) System.exit(1);
    }

    private static String block(String readme, String language) {
        Matcher found = Pattern.compile("(?s)\n```" + language + "\n(.*?\n)```\n").matcher(readme);
        return found.find() ? found.group(1) : "";
    }

    private static void example(String readme, String main) throws Exception {
        Path dir = Files.createTempDirectory("readme");
        try {
            Path source = dir.resolve("Example.java");
            Files.writeString(source, block(readme, "java"));
            toldBy("javac", "-d", dir.toString(), main, source.toString());
            String told = toldBy("java", "-cp", dir.toString(), "Example");
            due(told.equals(block(readme, "text")), "the example tells\n" + told);
        } finally {
            remove(dir);
        }
    }

    private static String toldBy(String... command) throws Exception {
        Process process = new ProcessBuilder(command).redirectError(ProcessBuilder.Redirect.INHERIT).start();
        String told = new String(process.getInputStream().readAllBytes());
        due(process.waitFor() == 0, command[0] + " of the example ended in a fault");
        return told.replace(System.lineSeparator(), "\n");
    }

    private static void remove(Path dir) throws Exception {
        try (Stream<Path> files = Files.walk(dir)) {
            files.sorted(Comparator.reverseOrder()).map(Path::toFile).forEach(File::delete);
        }
    }

    private static void calls(String readme) {
        int from = readme.indexOf("### The calls");
        int to = readme.indexOf("### What the answers mean");
        due(from >= 0 && to > from, "the parts on calls and answers");
        if (from < 0 || to < from) return;
        List<String> named = new ArrayList<>();
        Matcher words = Pattern.compile("`(\\w+)`").matcher(readme.substring(from, to));
        while (words.find()) named.add(words.group(1));
        List<String> face = new ArrayList<>();
        for (Method m : HatchHouse.class.getDeclaredMethods()) {
            if (Modifier.isPublic(m.getModifiers())) face.add(m.getName());
        }
        named.sort(null);
        face.sort(null);
        due(named.equals(face), "the table has each call once: " + named);
    }

    private static void tests(String readme) throws Exception {
        Matcher names = Pattern.compile("`(\\w+Test|Script|Sight|Model)`").matcher(readme);
        while (names.find()) {
            due(Files.exists(Path.of("src/test/java", names.group(1) + ".java")), "there is no " + names.group(1));
        }
        try (Stream<Path> files = Files.list(Path.of("src/test/java"))) {
            for (Path file : files.toList()) {
                String name = file.getFileName().toString().replace(".java", "");
                due(readme.contains("`" + name + "`"), name + " is not told of");
            }
        }
    }
}
