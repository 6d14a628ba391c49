import java.nio.file.Files;
import java.nio.file.Path;
import java.util.regex.Matcher;
import java.util.regex.Pattern;

/** The calls of README.md, which has each call's answer behind it. */
public final class Readme {
    private static final int FEWEST_CALLS = 20;

    public static void main(String[] args) throws Exception {
        Runs.begin();
        Matcher line = Pattern.compile("^array\\.(\\w+\\([^)]*\\));\\s*// (-?\\w+).*$", Pattern.MULTILINE)
                .matcher(Files.readString(Path.of("README.md")));
        StringBuilder calls = new StringBuilder();
        int found = 0;
        while (line.find()) {
            calls.append(line.group(1)).append(" = ").append(line.group(2)).append('\n');
            found++;
        }
        Runs.run("README.md", "behind each call stands its answer", calls.toString());
        Runs.same("README.md", "it has calls to be read, at least " + FEWEST_CALLS,
                Math.min(found, FEWEST_CALLS), FEWEST_CALLS);
        Runs.end();
    }
}
