import java.io.ByteArrayOutputStream;
import java.io.IOException;
import java.io.PrintStream;
import java.lang.reflect.Method;
import java.nio.charset.StandardCharsets;
import java.nio.file.Files;
import java.nio.file.Path;

/** README.md tells the example as it stands, what it prints, and every call of the face. */
final class ReadmeTest {
    private ReadmeTest() {
    }

    public static void main(String[] args) throws IOException {
        String readme = Files.readString(Path.of("README.md"));
        Check.same("the example in README.md", block(readme, "java"), Files.readString(Path.of("example/Example.java")));
        Check.same("what the example prints", block(readme, "text"), printed());
        for (Method call : BenchOrder.class.getMethods()) {
            if (call.getDeclaringClass() == BenchOrder.class) {
                Check.due("a row for " + call.getName(), rows(readme, call), 1);
            }
        }
        Check.end();
    }

    /** What stands between the first fence of a language and the next fence. */
    private static String block(String readme, String language) {
        String fence = "```" + language + "\n";
        int from = readme.indexOf(fence);
        int to = from < 0 ? -1 : readme.indexOf("```", from + fence.length());
        return to < 0 ? "" : readme.substring(from + fence.length(), to);
    }

    private static String printed() {
        PrintStream console = System.out;
        ByteArrayOutputStream all = new ByteArrayOutputStream();
        System.setOut(new PrintStream(all, true, StandardCharsets.US_ASCII));
        try {
            Example.main(new String[0]);
        } finally {
            System.setOut(console);
        }
        return all.toString(StandardCharsets.US_ASCII).replace("\r\n", "\n");
    }

    /** Rows of the table of calls that begin with this call, with as many arguments as it takes. */
    private static int rows(String readme, Method call) {
        int rows = 0;
        for (String line : readme.split("\n")) {
            String head = "| `" + call.getName() + "(";
            if (line.startsWith(head)) {
                String told = line.substring(head.length(), Math.max(head.length(), line.indexOf(')')));
                int arguments = told.isEmpty() ? 0 : told.split(",").length;
                rows += arguments == call.getParameterCount() ? 1 : 0;
            }
        }
        return rows;
    }
}
