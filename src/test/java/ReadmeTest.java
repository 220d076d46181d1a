import java.io.IOException;
import java.lang.reflect.Method;
import java.lang.reflect.Modifier;
import java.nio.file.Files;
import java.nio.file.Path;
import java.util.regex.Matcher;
import java.util.regex.Pattern;

/** README.md's example answers as it says, and its list tells every call of the face. */
public final class ReadmeTest {
    private static final Pattern TOLD = Pattern.compile("^ {4}tell\\(x, \"(.*)\"\\);$", Pattern.MULTILINE);
    private static final Pattern CALL =
        Pattern.compile("^ {4}x\\.(\\w+)\\(([-\\d, ]*)\\); +// (-?\\d+)$", Pattern.MULTILINE);

    private ReadmeTest() {
    }

    public static void main(String[] args) throws IOException, ReflectiveOperationException {
        String page = Files.readString(Path.of("README.md"));
        example(page);
        list(page);
        Check.finish();
    }

    private static void example(String page) throws ReflectiveOperationException {
        Matcher told = TOLD.matcher(page);
        Check.holds("a table is told", told.find());
        WhoseRound x = new WhoseRound();
        tell(x, told.group(1));
        Matcher call = CALL.matcher(page);
        int calls = 0;
        while (call.find()) {
            calls++;
            long due = Long.parseLong(call.group(3));
            Check.due("README.md: " + call.group(1) + "(" + call.group(2) + ")", answer(x, call), due);
        }
        Check.holds("the example has its calls", calls >= 10);
    }

    /** As README.md writes it. */
    private static void tell(WhoseRound x, String text) {
        for (int i = 0; i < text.length(); i += 8) {
            long eight = 0;
            for (int k = i; k < i + 8; k++) {
                eight = eight << 8 | (k < text.length() ? text.charAt(k) : ' ');
            }
            x.feed(eight);
        }
    }

    private static long answer(WhoseRound x, Matcher call) throws ReflectiveOperationException {
        String given = call.group(2);
        String[] words = given.isEmpty() ? new String[0] : given.split(", ");
        Object[] numbers = new Object[words.length];
        Class<?>[] kinds = new Class<?>[words.length];
        for (int i = 0; i < words.length; i++) {
            numbers[i] = Integer.parseInt(words[i]);
            kinds[i] = int.class;
        }
        return ((Number) WhoseRound.class.getMethod(call.group(1), kinds).invoke(x, numbers)).longValue();
    }

    private static void list(String page) {
        for (Method m : WhoseRound.class.getDeclaredMethods()) {
            if (Modifier.isPublic(m.getModifiers())) {
                String start = "`" + m.getName() + "(";
                int at = page.indexOf(start);
                Check.holds("README.md tells of " + m.getName(), at >= 0);
                if (at >= 0) {
                    String given = page.substring(at + start.length(), page.indexOf(")", at));
                    int many = given.isEmpty() ? 0 : given.split(", ").length;
                    Check.due("README.md: how many numbers " + m.getName() + " is given", many, m.getParameterCount());
                }
            }
        }
    }
}
