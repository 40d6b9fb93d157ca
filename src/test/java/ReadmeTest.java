import java.io.IOException;
import java.nio.file.Files;
import java.nio.file.Path;
import java.util.regex.Matcher;
import java.util.regex.Pattern;

/** The example of README.md, call by call; and that it tells every call of the face and every test. */
public final class ReadmeTest {
    private static final Pattern CALL = Pattern.compile("x\\.(\\w+)\\((.*)\\);\\s*// = (-?\\d+)\\s.*");

    public static void main(String[] args) throws IOException {
        String readme = Files.readString(Path.of("README.md"));
        String example = readme.split("```java\n")[1].split("```")[0];
        Script.run("README.md", scriptOf(example));
        for (String name : Script.names()) {
            told(readme, "`" + name + "`");
        }
        try (var tests = Files.newDirectoryStream(Path.of("src/test/java"), "*Test.java")) {
            for (Path test : tests) {
                told(readme, "`" + test.getFileName().toString().replace(".java", "") + "`");
            }
        }
        Script.end();
    }

    private static String scriptOf(String example) {
        StringBuilder text = new StringBuilder();
        for (String line : example.split("\n")) {
            Matcher call = CALL.matcher(line);
            if (call.matches()) {
                text.append(call.group(1)).append(' ').append(call.group(2).replace(",", ""));
                text.append(" = ").append(call.group(3)).append(";");
            } else if (!line.equals("CardTables x = new CardTables();")) {
                Script.fault("README.md: not a call with its answer: " + line);
            }
        }
        return text.toString();
    }

    private static void told(String readme, String word) {
        if (!readme.contains(word)) {
            Script.fault("README.md: does not tell " + word);
        }
    }
}
