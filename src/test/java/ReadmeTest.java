import java.io.ByteArrayOutputStream;
import java.io.IOException;
import java.io.InputStream;
import java.nio.file.Files;
import java.nio.file.Path;
import java.util.ArrayList;
import java.util.List;
import javax.tools.ToolProvider;

/** The example of README.md, run as it stands, says what the page says; and the page names each call of the face. */
public final class ReadmeTest {
    private static final Path PAGE = Path.of("README.md");
    private static final Path PLACE = Path.of("build", "readme");

    private ReadmeTest() {
    }

    public static void main(String[] args) throws IOException, InterruptedException {
        List<String> page = Files.readAllLines(PAGE);
        Check.open("README.md");
        Check.same(" its example", said(block(page, "```java")), String.join("\n", block(page, "```text")));
        namesEachCall(String.join("\n", page));
        Check.tell();
    }

    /** The lines between the first line that is that one and the end of its block. */
    private static List<String> block(List<String> page, String begin) {
        List<String> lines = new ArrayList<>();
        int from = page.indexOf(begin);
        for (int i = from + 1; from >= 0 && i < page.size() && !page.get(i).equals("```"); i++) {
            lines.add(page.get(i));
        }
        return lines;
    }

    private static String said(List<String> program) throws IOException, InterruptedException {
        Files.createDirectories(PLACE);
        Path file = PLACE.resolve("Example.java");
        Files.write(file, program);
        ByteArrayOutputStream told = new ByteArrayOutputStream();
        int wrong = ToolProvider.getSystemJavaCompiler().run(null, told, told, "-d", PLACE.toString(),
                "src/main/java/RunLedger.java", file.toString());
        if (wrong != 0) {
            return "does not compile: " + told;
        }
        String java = Path.of(System.getProperty("java.home"), "bin", "java").toString();
        Process run = new ProcessBuilder(java, "-cp", PLACE.toString(), "Example").redirectErrorStream(true).start();
        try (InputStream out = run.getInputStream()) {
            out.transferTo(told);
        }
        return run.waitFor() == 0 ? told.toString().stripTrailing().replace("\r", "") : "ended with an error: " + told;
    }

    private static void namesEachCall(String page) {
        for (var method : RunLedger.class.getMethods()) {
            if (method.getDeclaringClass() == RunLedger.class) {
                String name = method.getName();
                boolean named = page.contains("`" + name + "`") || page.contains("`" + name + "(");
                Check.same(" names " + name, String.valueOf(named), "true");
            }
        }
    }
}
