import java.io.ByteArrayOutputStream;
import java.io.File;
import java.io.IOException;
import java.io.PrintStream;
import java.net.URL;
import java.net.URLClassLoader;
import java.nio.file.Files;
import java.nio.file.Path;
import java.util.ArrayList;
import java.util.List;
import java.util.regex.Matcher;
import java.util.regex.Pattern;
import javax.tools.ToolProvider;

/** README.md: its example compiles and prints what stands there, and the files that it names are there. */
public final class ReadmeTest {
    private static final Check check = new Check("ReadmeTest");

    public static void main(String[] args) throws Exception {
        String readme = Files.readString(Path.of("README.md"));
        example(readme);
        paths(readme);
        check.end();
    }

    private static void example(String readme) throws Exception {
        List<String> programs = blocks(readme, "java");
        List<String> printed = blocks(readme, "text");
        check.due("programs", programs.size(), 1);
        check.due("what they print", printed.size(), 1);
        Path place = Files.createTempDirectory("readme");
        try {
            Path program = place.resolve("Example.java");
            Files.writeString(program, programs.get(0));
            int compiled = ToolProvider.getSystemJavaCompiler().run(null, null, null, "-d", place.toString(),
                    "src/main/java/Vaultgarden.java", program.toString());
            check.due("the example compiles", compiled, 0);
            check.due("the example prints", printedBy(place), printed.get(0));
        } finally {
            remove(place.toFile());
        }
    }

    private static List<String> blocks(String readme, String language) {
        List<String> found = new ArrayList<>();
        Matcher block = Pattern.compile("```" + language + "\n(.*?)```", Pattern.DOTALL).matcher(readme);
        while (block.find()) {
            found.add(block.group(1));
        }
        return found;
    }

    private static String printedBy(Path place) throws Exception {
        PrintStream usual = System.out;
        ByteArrayOutputStream printed = new ByteArrayOutputStream();
        System.setOut(new PrintStream(printed, true));
        try (URLClassLoader loader = new URLClassLoader(new URL[] {place.toUri().toURL()}, null)) {
            loader.loadClass("Example").getMethod("main", String[].class).invoke(null, (Object) new String[0]);
        } finally {
            System.setOut(usual);
        }
        return printed.toString().replace("\r\n", "\n");
    }

    private static void remove(File place) {
        File[] inside = place.listFiles();
        for (File file : inside == null ? new File[0] : inside) {
            remove(file);
        }
        check.due("removed " + place.getName(), place.delete(), true);
    }

    private static void paths(String readme) throws IOException {
        Matcher path = Pattern.compile("(\\.\\./shared|src|\\.ci)/[\\w./-]*\\w|NOTES\\.md").matcher(readme);
        int found = 0;
        while (path.find()) {
            found++;
            check.due(path.group() + " is there", Files.exists(Path.of(path.group())), true);
        }
        check.due("paths", found > 20, true);
        try (var tests = Files.list(Path.of("src/test/java"))) {
            for (Path test : (Iterable<Path>) tests::iterator) {
                boolean isNamed = readme.contains("src/test/java/" + test.getFileName());
                boolean isBound = test.getFileName().toString().startsWith("BoundsOf");
                boolean isHelper = test.getFileName().toString().equals("Check.java");
                check.due(test + " is named", isNamed || isBound || isHelper, true);
            }
        }
    }
}
