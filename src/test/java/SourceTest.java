import java.io.IOException;
import java.nio.file.Files;
import java.nio.file.Path;
import java.util.ArrayList;
import java.util.Arrays;
import java.util.List;
import java.util.regex.Matcher;
import java.util.regex.Pattern;

/** The rules of LANGUAGE.md that can be seen from the words of the source, and what the interface says there. */
public final class SourceTest {
    private static final String[] FORBIDDEN = {
        "\\bthrows?\\b", "\\btry\\b", "\\bcatch\\b", "\\bsynchronized\\b", "\\bassert\\b", "\\bimport\\b",
        "\\bpackage\\b", "->", "::", "@", "\\bprotected\\b", "\\bequals\\b", "\\bhashCode\\b", "\\btoString\\b",
        "\\bgetClass\\b", "Exact\\b", "\\bthis\\s*\\)", "\\bThread\\b", "\\bRandom\\b", "\\bMath\\.random\\b",
    };

    /** "Changes and errors": what the interface says ahead of its calls. */
    private static final String[] FACE = {
        "---- cards, weather", "card", "weather",
        "---- flights", "fly", "waive", "reopen", "pass", "set",
        "---- what there is", "why", "cardOf", "flightOf", "weatherOf", "cards",
        "---- what would be", "first", "planned", "plan", "worst", "count", "undo",
        "---- texts", "type", "clearText", "fault", "play",
    };

    public static void main(String[] args) throws IOException {
        String source = Files.readString(Path.of("src/main/java/SortieCards.java"));
        int wrong = count(source) + countOfFace(source);
        System.out.println(wrong == 0 ? "source: as the rules want it" : "source: " + wrong + " wrong");
        if (wrong != 0) {
            System.exit(1);
        }
    }

    private static int count(String source) {
        String code = source.replaceAll("(?s)/\\*.*?\\*/", "").replaceAll("//[^\n]*", "");
        int wrong = 0;
        for (String forbidden : FORBIDDEN) {
            Matcher matcher = Pattern.compile(forbidden).matcher(code);
            if (matcher.find()) {
                wrong++;
                System.out.println("not allowed in the source: " + matcher.group());
            }
        }
        if (!source.chars().allMatch(character -> character < 128)) {
            wrong++;
            System.out.println("the source has a sign beyond 127");
        }
        return wrong;
    }

    private static int countOfFace(String source) {
        List<String> found = new ArrayList<>();
        Matcher matcher = Pattern.compile("(?m)^ *// (---- .*)$|^ *public int (\\w+)\\(").matcher(source);
        while (matcher.find()) {
            found.add(matcher.group(1) != null ? matcher.group(1) : matcher.group(2));
        }
        if (found.equals(Arrays.asList(FACE))) {
            return 0;
        }
        System.out.println("the calls and what is said ahead of them: " + found);
        return 1;
    }
}
