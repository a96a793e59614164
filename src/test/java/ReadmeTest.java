import java.io.IOException;
import java.nio.file.Files;
import java.nio.file.Path;
import java.util.regex.Matcher;
import java.util.regex.Pattern;

/** The example of README.md answers what is written behind each call. */
public final class ReadmeTest {
    private static final Due DUE = new Due();
    private static final Pattern TEXT = Pattern.compile("\"([^\"]+)\"\\.toCharArray\\(\\)");
    private static final Pattern TOLD = Pattern.compile("hay\\.([a-z]+\\([0-9, -]*\\)); +// ([A-Z]+|\\d+)\\b.*");

    public static void main(String[] args) throws IOException {
        String page = Files.readString(Path.of("README.md"));
        String example = page.split("```java\n")[1].split("```")[0];
        HayTalk hay = new HayTalk();
        int told = 0;
        for (String line : example.split("\n")) {
            Matcher text = TEXT.matcher(line);
            if (text.find()) {
                Due.writeOn(hay, text.group(1));
            }
            Matcher call = TOLD.matcher(line);
            if (call.matches()) {
                int got = Calls.answerTold(hay, call.group(1).replace(" ", ""));
                DUE.due("README.md, " + call.group(1), got, Calls.number(call.group(2)));
                told++;
            }
        }
        DUE.due("calls told in README.md", told, 11);
        DUE.end("ReadmeTest");
    }
}
