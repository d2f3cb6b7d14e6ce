import java.lang.reflect.Method;
import java.lang.reflect.Modifier;
import java.nio.file.Files;
import java.nio.file.Path;
import java.util.ArrayList;
import java.util.List;
import java.util.regex.Matcher;
import java.util.regex.Pattern;

/** The example of README.md, read from there and run line by line, so that README tells what is so. */
public final class ExampleTest {
    private static final Path README = Path.of("README.md");
    private static final Path ITSELF = Path.of("src/test/java/ExampleTest.java");
    private static final Pattern CALL = Pattern.compile("words\\.(\\w+)\\(([^)]*)\\); *// (-?\\w+).*");
    private static final Pattern TEXT = Pattern.compile("\"([^\"]*)\"");

    private final Bench bench = new Bench();
    private final HundredWords words = new HundredWords();

    public static void main(String[] args) throws Exception {
        ExampleTest test = new ExampleTest();
        String readme = Files.readString(README);
        List<String> blocks = javaBlocks(readme);
        test.bench.due("examples in README.md", blocks.size(), 2);
        test.sameHelper(blocks.get(0));
        test.run(blocks.get(1));
        test.allCallsNamed(readme);
        test.bench.finish("ExampleTest");
    }

    /** The helper that README.md shows. */
    static void tell(HundredWords words, String text) {
        for (int at = 0; at < text.length(); at += 20) {
            int[] four = new int[5];
            for (int k = 0; k < 20; k++) {
                int octet = at + k < text.length() ? text.charAt(at + k) : ' ';
                four[k / 4] = four[k / 4] << 8 | octet;
            }
            words.feed(four[0], four[1], four[2], four[3], four[4]);
        }
        words.end(text.length());
    }

    private static List<String> javaBlocks(String readme) {
        List<String> blocks = new ArrayList<>();
        Matcher block = Pattern.compile("(?s)```java\n(.*?)```").matcher(readme);
        while (block.find()) {
            blocks.add(block.group(1));
        }
        return blocks;
    }

    private static String withoutIndents(String text) {
        return text.replaceAll("(?m)^ +", "");
    }

    private void sameHelper(String helper) throws Exception {
        boolean same = withoutIndents(Files.readString(ITSELF)).contains(withoutIndents(helper));
        bench.due("the helper of README.md is the one that runs here", same, true);
    }

    /** A statement goes to the line that ends it; the first makes the object. */
    private void run(String example) throws Exception {
        String statement = "";
        int calls = 0;
        for (String line : example.split("\n")) {
            statement += line.trim();
            if (statement.startsWith("tell(") && statement.endsWith(");")) {
                tell(words, textOf(statement));
                statement = "";
            } else if (!statement.startsWith("tell(")) {
                calls += answered(statement);
                statement = "";
            }
        }
        bench.due("statements that are not ended", statement.length(), 0);
        bench.due("more than twenty calls are shown", calls > 20, true);
    }

    private static String textOf(String statement) {
        StringBuilder text = new StringBuilder();
        Matcher part = TEXT.matcher(statement);
        while (part.find()) {
            text.append(part.group(1));
        }
        return text.toString();
    }

    private int answered(String statement) throws Exception {
        Matcher call = CALL.matcher(statement);
        if (!call.matches()) {
            bench.due("a line that only makes the object: " + statement,
                statement.equals("HundredWords words = new HundredWords();"), true);
            return 0;
        }
        Object got = methodOf(call.group(1)).invoke(words, argumentsOf(call.group(2)));
        bench.due(statement + " - answered " + got, got.toString().equals(call.group(3)), true);
        return 1;
    }

    private static Method methodOf(String name) throws NoSuchMethodException {
        for (Method method : HundredWords.class.getMethods()) {
            if (method.getName().equals(name)) {
                return method;
            }
        }
        throw new NoSuchMethodException(name);
    }

    private static Object[] argumentsOf(String told) {
        List<Object> arguments = new ArrayList<>();
        for (String one : told.isEmpty() ? new String[0] : told.split(", ")) {
            if (one.equals("true") || one.equals("false")) {
                arguments.add(Boolean.valueOf(one));
            } else {
                arguments.add(Integer.valueOf(one));
            }
        }
        return arguments.toArray();
    }

    private void allCallsNamed(String readme) {
        for (Method method : HundredWords.class.getDeclaredMethods()) {
            if (Modifier.isPublic(method.getModifiers())) {
                bench.due("README.md names " + method.getName(), readme.contains("`" + method.getName() + "`"), true);
            }
        }
    }
}
