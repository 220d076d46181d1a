import java.io.IOException;
import java.lang.reflect.Constructor;
import java.lang.reflect.Field;
import java.lang.reflect.Method;
import java.lang.reflect.Modifier;
import java.nio.file.Files;
import java.nio.file.Path;
import java.util.Arrays;
import java.util.Set;
import java.util.TreeSet;
import java.util.regex.Matcher;
import java.util.regex.Pattern;

/** The face is the document's, no more and no less, and the source keeps to the plain rules of LANGUAGE.md. */
public final class FaceTest {
    private static final String[] FACE = {
        "int adopt()", "int back(int)", "int best(int)", "int book(int)", "int coins(int)", "int count(int)",
        "int end(int)", "int evening(int,int,int)", "int fairest(int,int)", "int fault()", "int feed(long)",
        "int fridays(int,int,int,int)", "int goes(int,int)", "int judge(int,int,int)", "int keep(int)",
        "int late(int,int,int,int)", "int lay(int,int,int)", "int of(int,int,int,int)", "int one(int,int)",
        "int read(int,int,int,int)", "int round(int,int,int,int)", "int set(int,int,int)", "int sheet(int,int,int)",
        "int shut()", "int slow(int,int,int,int)", "int sure(int,int)", "int table()", "int think(int,int)",
        "int thought(int,int,int)", "int torn()", "long lot(int,int)", "long right(int,int,int,int)"};

    private static final String[] FORBIDDEN = {"throw", "throws", "try", "catch", "finally", "synchronized", "assert",
        "volatile", "native", "Object", "Random", "System.currentTimeMillis", "System.nanoTime", "Thread", "File",
        "->", "::", "Exact(", "protected", "equals(Object", "hashCode", "toString", "Integer.MAX_VALUE"};

    private FaceTest() {
    }

    public static void main(String[] args) throws IOException {
        face();
        inside();
        String source = Files.readString(Path.of(args.length > 0 ? args[0] : "src/main/java/WhoseRound.java"));
        words(source);
        methods(source);
        Check.finish();
    }

    private static void face() {
        Set<String> names = new TreeSet<>();
        Set<String> hidden = new TreeSet<>();
        for (Method m : WhoseRound.class.getDeclaredMethods()) {
            if (Modifier.isPrivate(m.getModifiers())) {
                hidden.add(m.getName());
            } else {
                String parameters = Arrays.toString(m.getParameterTypes()).replaceAll("[\\[\\] ]", "");
                names.add(m.getReturnType() + " " + m.getName() + "(" + parameters + ")");
                Check.holds(m + " is no static method", !Modifier.isStatic(m.getModifiers()));
            }
        }
        Set<String> due = new TreeSet<>(Arrays.asList(FACE));
        Check.holds("the methods are " + due + ", are " + names, names.equals(due));
        Set<String> fields = new TreeSet<>();
        for (Field f : WhoseRound.class.getDeclaredFields()) {
            if (!Modifier.isPrivate(f.getModifiers())) {
                fields.add(f.getName());
            }
            Check.holds(f + " is final if static",
                !Modifier.isStatic(f.getModifiers()) || Modifier.isFinal(f.getModifiers()));
        }
        Check.holds("the constants are " + fields, fields.equals(Set.of("BAD", "STATE", "FULL", "NONE")));
        Constructor<?>[] made = WhoseRound.class.getDeclaredConstructors();
        Check.holds("one constructor", made.length == 1 && Modifier.isPublic(made[0].getModifiers()));
        Check.holds("public and final", WhoseRound.class.getModifiers() == (Modifier.PUBLIC | Modifier.FINAL));
        for (String line : FACE) {
            Check.holds("no private " + line, !hidden.contains(line.replaceAll(".* |\\(.*", "")));
        }
    }

    private static void inside() {
        Class<?>[] inside = WhoseRound.class.getDeclaredClasses();
        Check.holds("some twelve classes", inside.length < 12);
        for (Class<?> c : inside) {
            Check.holds(c + " is static", Modifier.isStatic(c.getModifiers()));
            Check.holds(c + " is not public", !Modifier.isPublic(c.getModifiers()));
            Check.holds(c + " has some twenty fields", c.getDeclaredFields().length <= 20);
            for (Method m : c.getDeclaredMethods()) {
                for (String line : FACE) {
                    String name = line.replaceAll(".* |\\(.*", "");
                    boolean hides = Modifier.isPrivate(m.getModifiers()) && m.getName().equals(name);
                    Check.holds(m + " is not named as a public one", !hides);
                }
            }
        }
    }

    private static void words(String source) {
        String code = source.replaceAll("(?s)/\\*.*?\\*/", "").replaceAll("//[^\n]*", "");
        for (String word : FORBIDDEN) {
            String start = Character.isLetter(word.charAt(0)) ? "\\b" : "";
            String end = Character.isLetter(word.charAt(word.length() - 1)) ? "\\b" : "";
            boolean stands = Pattern.compile(start + Pattern.quote(word) + end).matcher(code).find();
            Check.holds("no " + word, !stands);
        }
        Matcher m = Pattern.compile("\\b(Math|Integer|Long|System|Arrays)\\.(\\w+)").matcher(code);
        Set<String> may = Set.of("Math.max", "Math.min", "Math.abs", "Integer.bitCount", "System.arraycopy", "Arrays.fill");
        while (m.find()) {
            Check.holds(m.group() + " is of the library that may be used", may.contains(m.group()));
        }
        Check.holds("one import", code.split("import ").length == 2 && code.contains("import java.util.Arrays;"));
    }

    private static void methods(String source) {
        int began = 0;
        String name = "";
        int number = 0;
        for (String line : source.split("\n")) {
            number++;
            Check.holds("line " + number + " has 120 signs at most", line.length() <= 120);
            if (line.matches(" {4}( {4})?[\\w\\[\\]][^;=]*\\(.*\\) \\{")) {
                began = number;
                name = line.trim();
                Check.holds(name + " has seven parameters at most", name.split(",").length <= 7);
            }
            if (line.matches(" {4}( {4})?\\}")) {
                Check.holds(name + " has 60 lines at most", number - began < 60 || began == 0);
                began = 0;
            }
        }
    }
}
