import java.io.File;
import java.io.IOException;
import java.nio.file.Files;
import java.nio.file.Path;
import java.util.ArrayList;
import java.util.List;
import java.util.regex.Matcher;
import java.util.regex.Pattern;

/** README.md's example is compiled and run as it stands; each answer that it prints must be the one its comment tells. */
public final class ReadmeTest {
    private static final Pattern BLOCK = Pattern.compile("```java\n(.*?)```", Pattern.DOTALL);
    private static final Pattern PRINTS = Pattern.compile("System\\.out\\.println\\((.*)\\); +// (-?\\w+):.*");

    public static void main(String[] args) throws IOException, InterruptedException {
        Matcher block = BLOCK.matcher(Files.readString(Path.of("README.md")));
        if (!block.find()) {
            fail("README.md has no example");
        }
        String example = block.group(1);
        List<String> printed = run(example);
        int at = 0;
        int wrong = 0;
        for (String line : example.split("\n")) {
            Matcher prints = PRINTS.matcher(line.trim());
            if (line.contains("System.out.println") && !prints.matches()) {
                fail("no answer stands beside " + line.trim());
            }
            if (prints.matches()) {
                String got = at < printed.size() ? printed.get(at) : "nothing";
                at++;
                if (!got.equals(prints.group(2))) {
                    wrong++;
                    System.out.println(prints.group(1) + " printed " + got + ", README.md says " + prints.group(2));
                }
            }
        }
        if (wrong > 0 || at == 0 || at != printed.size()) {
            fail(wrong + " answers of the example are not README.md's; it has " + at + ", " + printed.size() + " were printed");
        }
        System.out.println("the example prints its " + at + " answers");
    }

    private static void fail(String why) {
        throw new IllegalStateException(why);
    }

    private static List<String> run(String example) throws IOException, InterruptedException {
        Path folder = Files.createTempDirectory("readme");
        try {
            Path source = folder.resolve("Example.java");
            Files.writeString(source, example);
            String path = System.getProperty("java.class.path");
            String made = folder.resolve("classes").toString();
            started(List.of("javac", "-encoding", "UTF-8", "-cp", path, "-d", made, source.toString()));
            return started(List.of("java", "-cp", made + File.pathSeparator + path, "Example"));
        } finally {
            remove(folder.toFile());
        }
    }

    private static List<String> started(List<String> command) throws IOException, InterruptedException {
        Process process = new ProcessBuilder(command).redirectErrorStream(true).start();
        List<String> lines = new ArrayList<>(new String(process.getInputStream().readAllBytes()).lines().toList());
        if (process.waitFor() != 0) {
            fail(String.join("\n", lines));
        }
        return lines;
    }

    private static void remove(File file) {
        File[] within = file.listFiles();
        for (File one : within == null ? new File[0] : within) {
            remove(one);
        }
        file.delete();
    }
}
