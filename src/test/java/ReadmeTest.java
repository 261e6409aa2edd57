import java.io.IOException;
import java.lang.reflect.Method;
import java.lang.reflect.Modifier;
import java.nio.file.Files;
import java.nio.file.Path;
import java.util.ArrayList;
import java.util.List;
import java.util.regex.Matcher;
import java.util.regex.Pattern;

/** The calls that README.md shows stand here once more, so that what it says they answer stays true. */
public final class ReadmeTest {
    /** A line of README.md that shows a call: "hotel.why(0);   // 0: no reason". */
    private static final Pattern SHOWN = Pattern.compile("(?m)^(\\w+\\.\\w+\\(.*\\);) +// (-?\\d+): .+$");
    /** A line of README.md that shows any call on an object, inside a loop or not. */
    private static final Pattern ANY_CALL = Pattern.compile("(?m)^ *(hotel|other)\\.\\w+\\(.*$");

    private static final List<String> SHOWN_CALLS = new ArrayList<>();
    private static int next = 0;

    public static void main(String[] args) throws IOException {
        String readme = Files.readString(Path.of("README.md"));
        Matcher matcher = SHOWN.matcher(readme);
        while (matcher.find()) {
            SHOWN_CALLS.add(matcher.group(1) + " answers " + matcher.group(2));
        }
        calls();
        text();
        Check.is("calls that README.md shows with answers", SHOWN_CALLS.size(), next);
        Check.is("calls that README.md shows", ANY_CALL.matcher(readme).results().count(), next + 1);
        everyCallIsNamed(readme);
        Check.end();
    }

    private static void shown(String call, int answer) {
        String due = next < SHOWN_CALLS.size() ? SHOWN_CALLS.get(next) : "nothing more";
        String got = call + " answers " + answer;
        Check.isTrue("README.md says: " + due + ", the program: " + got + ": that they agree", got.equals(due));
        next++;
    }

    private static void calls() {
        ButtonGuests hotel = new ButtonGuests();
        shown("hotel.come(2, 2, 3, 1);", hotel.come(2, 2, 3, 1));
        shown("hotel.come(3, 2, 3, 1);", hotel.come(3, 2, 3, 1));
        shown("hotel.why(0);", hotel.why(0));
        shown("hotel.fewest(0);", hotel.fewest(0));
        shown("hotel.ifPressed(2, 1, 3);", hotel.ifPressed(2, 1, 3));
        shown("hotel.press(hotel.best());", hotel.press(hotel.best()));
        shown("hotel.press(0);", hotel.press(0));
        shown("hotel.press(1);", hotel.press(1));
        shown("hotel.about(5);", hotel.about(5));
        shown("hotel.about(6);", hotel.about(6));
        shown("hotel.undo();", hotel.undo());
        shown("hotel.about(4);", hotel.about(4));
    }

    private static void text() {
        ButtonGuests other = new ButtonGuests();
        for (char c : "Hg2231g3231b".toCharArray()) {
            other.append(c);
        }
        shown("other.errorPosition();", other.errorPosition());
        shown("other.load();", other.load());
        shown("other.about(4);", other.about(4));
    }

    private static void everyCallIsNamed(String readme) {
        for (Method method : ButtonGuests.class.getDeclaredMethods()) {
            if (Modifier.isPublic(method.getModifiers())) {
                String call = "`" + method.getName() + "(";
                Check.isTrue("README.md names " + call + "..): that", readme.contains(call));
            }
        }
    }
}
