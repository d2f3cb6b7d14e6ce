import java.lang.reflect.Array;
import java.lang.reflect.Field;
import java.lang.reflect.Method;
import java.lang.reflect.Modifier;
import java.nio.file.Files;
import java.nio.file.Path;
import java.util.ArrayList;
import java.util.Collections;
import java.util.IdentityHashMap;
import java.util.List;
import java.util.Set;
import java.util.TreeSet;
import java.util.regex.Matcher;
import java.util.regex.Pattern;

/** The class against its face in the document, and its source against what LANGUAGE.md lets one see in a text. */
public final class LanguageTest {
    private static final Path SOURCE = Path.of("src/main/java/HundredWords.java");
    private static final Set<String> FACE = new TreeSet<>(List.of(
        "int feed(int, int, int, int, int)", "boolean end(int)", "int tongue()", "int law(boolean)", "int fault(int)",
        "int has(int)", "int letter(int, int)", "int sign(boolean, int)", "int size(boolean, int)",
        "int forbids(boolean, int)", "int borne(int, int)", "int led(int, int)", "int price(int)",
        "int put(int, int)",
        "int strike(int)", "int swap(int, int)", "boolean undo()", "int changes(int)", "int fewest(boolean, int)",
        "int shorts()", "int brief(int, int)", "int way()", "int hole(boolean, int)", "int parts()",
        "int worth(boolean, int)", "int votes(boolean)", "int rest()", "int spring(int)", "int fitting(int)",
        "int judged()", "boolean seed(int)", "int stroke()", "long ask()", "int image()", "int octet(int)",
        "boolean restore()", "int status(int)"));
    private static final Set<String> LIBRARY = Set.of("Arrays.fill", "Arrays.copyOf", "Arrays.copyOfRange",
        "System.arraycopy", "Math.min", "Math.max", "Math.abs", "Math.floorDiv", "Math.floorMod", "Long.bitCount",
        "Integer.signum", "Integer.compare", "Long.compare");

    private final Bench bench = new Bench();

    public static void main(String[] args) throws Exception {
        LanguageTest test = new LanguageTest();
        test.face();
        test.insides();
        String plain = test.withoutComments(Files.readString(SOURCE));
        test.words(plain);
        test.library(plain);
        test.methods(plain);
        test.making(plain);
        test.room();
        test.bench.finish("LanguageTest");
    }

    private void none(String rule, List<String> found) {
        bench.due(rule + " " + found, found.size(), 0);
    }

    private static String signature(Method method) {
        List<String> parameters = new ArrayList<>();
        for (Class<?> type : method.getParameterTypes()) {
            parameters.add(type.getSimpleName());
        }
        String name = method.getReturnType().getSimpleName() + " " + method.getName();
        return name + "(" + String.join(", ", parameters) + ")";
    }

    /** Rule 1. */
    private void face() throws Exception {
        Set<String> open = new TreeSet<>();
        for (Method method : HundredWords.class.getDeclaredMethods()) {
            if (!Modifier.isPrivate(method.getModifiers())) {
                open.add(signature(method));
            }
        }
        bench.due("the face " + open, open.equals(FACE), true);
        List<String> fields = new ArrayList<>();
        for (Field field : HundredWords.class.getDeclaredFields()) {
            if (!Modifier.isPrivate(field.getModifiers())) {
                fields.add(field.getType() + " " + field.getName());
            }
        }
        bench.due("open fields " + fields, fields.equals(List.of("int NONE", "long NOTHING")), true);
        bench.due("constructors", HundredWords.class.getDeclaredConstructors().length, 1);
        bench.due("final", Modifier.isFinal(HundredWords.class.getModifiers()), true);
    }

    /** Rules 1, 2, 5, 11: names, nested classes, static fields, how many. */
    private void insides() {
        Set<String> names = new TreeSet<>();
        FACE.forEach(line -> names.add(line.replaceAll(".* (\\w+)\\(.*", "$1")));
        List<String> wrong = new ArrayList<>();
        Class<?>[] classes = HundredWords.class.getDeclaredClasses();
        bench.due("at most twelve classes", classes.length + 1 <= 12, true);
        for (Class<?> inside : classes) {
            if (!Modifier.isStatic(inside.getModifiers()) || Modifier.isPublic(inside.getModifiers())) {
                wrong.add(inside.getName());
            }
            for (Method method : inside.getDeclaredMethods()) {
                if (names.contains(method.getName())) {
                    wrong.add(inside.getName() + "." + method.getName());
                }
            }
            checkFields(inside, wrong);
        }
        checkFields(HundredWords.class, wrong);
        none("insides", wrong);
    }

    private void checkFields(Class<?> type, List<String> wrong) {
        Set<String> constants =
            Set.of("int", "long", "boolean", "char", "String", "int[]", "long[]", "char[]", "byte[]");
        int own = 0;
        for (Field field : type.getDeclaredFields()) {
            boolean fixed = Modifier.isStatic(field.getModifiers());
            own += fixed ? 0 : 1;
            boolean constant = constants.contains(field.getType().getSimpleName());
            if (fixed && !(constant && Modifier.isFinal(field.getModifiers()))) {
                wrong.add(type.getName() + "." + field.getName());
            }
        }
        if (own > 20) {
            wrong.add(type.getName() + " has " + own + " fields");
        }
    }

    /** Texts become empty ones, too. */
    private String withoutComments(String source) {
        String plain = source.replaceAll("(?s)/\\*.*?\\*/", "").replaceAll("//[^\n]*", "");
        return plain.replaceAll("\"[^\"]*\"", "\"\"").replaceAll("'[^']'", "0");
    }

    private static List<String> matches(String regex, String text) {
        List<String> found = new ArrayList<>();
        Matcher matcher = Pattern.compile(regex).matcher(text);
        while (matcher.find()) {
            found.add(matcher.group());
        }
        return found;
    }

    private void words(String plain) {
        none("rule 6", matches("\\b(throw|throws|try|catch|finally|synchronized|assert|instanceof)\\b", plain));
        none("rule 2", matches("->|::", plain));
        none("rule 3", matches("\\b(double|float)\\b", plain));
        none("rule 5", matches("static\\s*\\{", plain));
        none("rule 9", matches("while \\(true\\)|for \\(;;\\)|for \\([^;]*;\\s*;", plain));
        none("rule 10", matches("\"\"\\s*\\+|\\+\\s*\"\"", plain));
        none("no package", matches("\\bpackage\\b", plain));
        bench.due("imports", matches("import [^;]*;", plain).equals(List.of("import java.util.Arrays;")), true);
    }

    /** Rule 4: what is called by a class's name is the class's own or stands in the list. */
    private void library(String plain) {
        Set<String> own = new TreeSet<>();
        matches("class \\w+", plain).forEach(line -> own.add(line.substring(6)));
        List<String> wrong = new ArrayList<>();
        for (String call : matches("\\b[A-Z]\\w*\\.\\w+\\(", plain)) {
            String name = call.substring(0, call.length() - 1);
            if (!own.contains(name.substring(0, name.indexOf('.'))) && !LIBRARY.contains(name)) {
                wrong.add(name);
            }
        }
        none("rule 4", wrong);
    }

    /** Rule 11: how many parameters, how many lines. */
    private void methods(String plain) {
        String[] lines = plain.split("\n");
        List<String> wrong = new ArrayList<>();
        for (int first = 0; first < lines.length; first++) {
            if (!lines[first].matches("\\s+((public|private|static|final) )*[\\w\\[\\]]+( \\w+)?\\(.*\\) \\{")
                || lines[first].matches("\\s+(if|for|while|switch|return|\\} else if) ?\\(.*")) {
                continue;
            }
            String indent = lines[first].replaceAll("\\S.*", "");
            int last = first;
            while (!lines[last].equals(indent + "}")) {
                last++;
            }
            if (last - first + 1 > 60 || lines[first].split(",").length > 7) {
                wrong.add(lines[first].trim());
            }
        }
        none("rule 11", wrong);
    }

    /** Rule 12, and more than it asks: only constructors make anything, so that a run's calls make nothing. */
    private void making(String plain) {
        Set<String> makers = new TreeSet<>(Set.of("pack"));
        matches("class \\w+", plain).forEach(line -> makers.add(line.substring(6)));
        List<String> wrong = new ArrayList<>();
        Pattern opening = Pattern.compile("\\s+(?:(?:public|private|static) )*[\\w\\[\\] ]*?(\\w+)\\(.*\\) \\{");
        String method = "";
        for (String line : plain.split("\n")) {
            Matcher head = opening.matcher(line);
            if (head.matches() && !line.matches("\\s+(if|for|while|switch|\\}) ?.*")) {
                method = head.group(1);
            }
            if (line.matches(".*\\bnew\\b.*") && !makers.contains(method)) {
                wrong.add(method + ": " + line.trim());
            }
        }
        none("made by calls", wrong);
    }

    /** The room of a run has some 600,000 objects, 7.3 million fields and elements: one object takes little of it. */
    private void room() throws Exception {
        Set<Object> seen = Collections.newSetFromMap(new IdentityHashMap<>());
        long elements = count(new HundredWords(), seen);
        bench.due("objects and arrays of one HundredWords: " + seen.size(), seen.size() < 200, true);
        bench.due("fields and elements of one HundredWords: " + elements, elements < 25000, true);
    }

    private static long count(Object made, Set<Object> seen) throws Exception {
        if (made == null || made instanceof String || !seen.add(made)) {
            return 0;
        }
        long sum = 0;
        if (made.getClass().isArray()) {
            sum += Array.getLength(made);
            for (int k = 0; made instanceof Object[] row && k < row.length; k++) {
                sum += count(row[k], seen);
            }
            return sum;
        }
        for (Field field : made.getClass().getDeclaredFields()) {
            if (!Modifier.isStatic(field.getModifiers())) {
                field.setAccessible(true);
                sum += 1 + (field.getType().isPrimitive() ? 0 : count(field.get(made), seen));
            }
        }
        return sum;
    }
}
