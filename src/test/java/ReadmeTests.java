import java.io.IOException;
import java.lang.reflect.InvocationTargetException;
import java.lang.reflect.Method;
import java.lang.reflect.Modifier;
import java.nio.file.Files;
import java.nio.file.Path;
import java.util.ArrayList;
import java.util.List;
import java.util.regex.Matcher;
import java.util.regex.Pattern;

/** The calls that README.md shows, made in its order: each answers what stands behind it there. */
public final class ReadmeTests extends Edge {
    private static final Pattern NEW = Pattern.compile("MouthHouse house = new MouthHouse\\(\\);");
    private static final Pattern FED = Pattern.compile("feed\\(house, \"(.*)\"\\); *// (\\S+?)(:.*)?");
    private static final Pattern CALL = Pattern.compile("house\\.(\\w+)\\((.*)\\); *// (\\w+|-\\d+)([:,].*)?");

    private static MouthHouse house = null;

    public static void main(String[] args) throws Exception {
        helper();
        int made = 0;
        for (List<String> block : blocks()) {
            if (!block.get(0).startsWith("static ")) {
                for (String line : block) {
                    made += run(line);
                }
            }
        }
        due("README.md shows calls", made > 40, true);
        everyCall();
        close();
    }

    /** What stands between the marks of a piece of Java. */
    private static List<List<String>> blocks() throws IOException {
        List<List<String>> blocks = new ArrayList<>();
        List<String> block = null;
        for (String line : Files.readAllLines(Path.of("README.md"))) {
            if (line.equals("```java")) {
                block = new ArrayList<>();
                blocks.add(block);
            } else if (line.equals("```")) {
                block = null;
            } else if (block != null && !line.isBlank()) {
                block.add(line);
            }
        }
        return blocks;
    }

    /** The method by which README.md feeds a text is the one that these tests use. */
    private static void helper() throws IOException {
        String tests = Files.readString(Path.of("src/test/java/Edge.java")).replaceAll("\\s+", " ");
        int shown = 0;
        for (List<String> block : blocks()) {
            if (block.get(0).startsWith("static ")) {
                shown++;
                due("the tests use: " + block.get(0), tests.contains(String.join(" ", block).replaceAll("\\s+", " ")), true);
            }
        }
        due("methods that README.md shows", shown, 1);
    }

    private static int run(String line) throws Exception {
        Matcher fed = FED.matcher(line);
        Matcher call = CALL.matcher(line);
        if (NEW.matcher(line).matches()) {
            house = new MouthHouse();
            return 0;
        }
        if (fed.matches()) {
            due(line, feed(house, fed.group(1)), number(fed.group(2)));
            return 1;
        }
        due(line + " is a call with its answer", call.matches(), true);
        if (!call.matches()) {
            return 0;
        }
        String answer = answer(call.group(1), call.group(2));
        due(line + " answered " + answer, answer.equals(spelled(call.group(3))), true);
        return 1;
    }

    private static Method method(String name) {
        for (Method one : MouthHouse.class.getMethods()) {
            if (one.getName().equals(name)) {
                return one;
            }
        }
        throw new IllegalArgumentException("README.md calls " + name);
    }

    private static String answer(String name, String told) throws Exception {
        Method method = method(name);
        String[] words = told.isEmpty() ? new String[0] : told.split(", ");
        Object[] given = new Object[words.length];
        for (int i = 0; i < given.length; i++) {
            Class<?> type = method.getParameterTypes()[i];
            if (type == boolean.class) {
                given[i] = words[i].equals("true");
            } else if (type == long.class) {
                given[i] = Long.parseLong(words[i].replace("L", ""));
            } else {
                given[i] = number(words[i]);
            }
        }
        try {
            return String.valueOf(method.invoke(house, given));
        } catch (InvocationTargetException e) {
            return e.getCause().getClass().getSimpleName();
        }
    }

    private static int number(String word) {
        return word.equals("NONE") ? NONE : Integer.parseInt(word);
    }

    private static String spelled(String word) {
        return word.equals("NONE") ? "-1" : word.equals("HIDDEN") ? "-100000000" : word;
    }

    /** A reader finds each call of the face somewhere on the page. */
    private static void everyCall() throws IOException {
        String page = Files.readString(Path.of("README.md"));
        for (Method one : MouthHouse.class.getDeclaredMethods()) {
            if (Modifier.isPublic(one.getModifiers())) {
                boolean shown = Pattern.compile("(house\\.|`)" + one.getName() + "[(`]").matcher(page).find();
                due("README.md shows " + one.getName(), shown, true);
            }
        }
    }
}
