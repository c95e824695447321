import java.io.IOException;
import java.lang.reflect.Method;
import java.lang.reflect.Modifier;
import java.nio.file.Files;
import java.nio.file.Path;
import java.util.HashMap;
import java.util.HashSet;
import java.util.Map;
import java.util.Set;
import java.util.regex.Matcher;
import java.util.regex.Pattern;

/** README.md: its example does what it says, and no call is left out. */
final class ReadmeTests {
    private ReadmeTests() {
    }

    static void run(Tally tally) throws IOException {
        tally.begin("README.md");
        String page = Files.readString(Path.of("README.md"));
        for (Method method : ToldWays.class.getDeclaredMethods()) {
            if (Modifier.isPublic(method.getModifiers())) {
                tally.holds("names " + method.getName(), page.contains("`" + method.getName() + "`"));
            }
        }
        Matcher block = Pattern.compile("(?s)```java\n(.*?)```").matcher(page);
        tally.holds("has an example", block.find());
        example(tally, block.group(1), Files.readString(Path.of("src/test/java/ReadmeTests.java")));
    }

    /** The lines of the page are those of this file, and what stands behind // there begins with what the line gives. */
    private static void example(Tally tally, String example, String here) {
        Set<String> lines = new HashSet<>();
        for (String line : here.split("\n")) {
            lines.add(line.strip());
        }
        Map<String, String> given = given();
        int told = 0;
        for (String line : example.split("\n")) {
            String[] parts = line.split("//", 2);
            tally.holds("tested: " + parts[0], lines.contains(parts[0].strip()));
            Matcher name = Pattern.compile("(?:int|boolean) (\\w+) = ways").matcher(parts[0]);
            if (name.find()) {
                String due = given.get(name.group(1));
                tally.holds(parts[0] + " gives " + due, parts.length == 2 && parts[1].strip().matches("(?s)" + due + "\\b.*"));
                told++;
            }
        }
        tally.due("lines that tell what they give", given.size(), told);
    }

    private static Map<String, String> given() {
        ToldWays ways = new ToldWays();
        String text = "places 3; way 0 1 5; way 1 2 4; way 0 2 20;"
            + "person 0 1 8 whole knows 0, 1; person 0 2 30 first knows 2;";
        for (int i = 0; i < text.length(); i++) {
            ways.feed(1, text.charAt(i));
        }
        int places = ways.land();
        int nearest = ways.far(0, 2);
        int pieces = ways.says(0, 0, 2, 0);
        int soonest = ways.soonest(0, 2);
        int guide = ways.guide(0, 2, 0);
        int longest = ways.lot(0, 2, 1);
        int mean = ways.lot(0, 2, 2);
        int person = ways.say(0, 1, 0);
        boolean refused = ways.far(0, 3) == ToldWays.UNKNOWN;
        Map<String, String> given = new HashMap<>();
        given.put("places", "" + places);
        given.put("nearest", "" + nearest);
        given.put("pieces", "" + pieces);
        given.put("soonest", "" + soonest);
        given.put("guide", "" + guide);
        given.put("longest", "" + longest);
        given.put("mean", "" + mean);
        given.put("person", "" + person);
        given.put("refused", "" + refused);
        return given;
    }
}
