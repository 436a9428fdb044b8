import java.io.IOException;
import java.lang.reflect.Field;
import java.lang.reflect.Modifier;
import java.nio.file.Files;
import java.nio.file.Path;
import java.util.ArrayList;
import java.util.Arrays;
import java.util.List;
import java.util.Set;
import java.util.TreeSet;
import java.util.regex.Matcher;
import java.util.regex.Pattern;

/** The rules of LANGUAGE.md that can be read off the program, text and class. Runs in the project's folder. */
public final class LanguageTest {
    private static final Due DUE = new Due("LanguageTest");
    private static final Path PROGRAM = Path.of("src/main/java/TextShelves.java");
    private static final int LONGEST_METHOD = 60;
    private static final int MOST_PARAMETERS = 7;
    private static final int MOST_FIELDS = 20;
    private static final String[] FORBIDDEN = {"\\bthrow\\b", "\\bthrows\\b", "\\btry\\b", "\\bcatch\\b",
        "\\bfinally\\b", "\\bsynchronized\\b", "\\bassert\\b", "\\bimport\\b", "\\bpackage\\b", "->", "::",
        "\\bprotected\\b", "\\bException\\b", "\\bRuntime\\b", "\\bThread\\b", "\\bObject\\b", "\\bvar\\b",
        "\\bfloat\\b", "\\bdouble\\b", "Exact\\b", "@\\w+", "\\bhashCode\\b", "\\btoString\\b", "\\bvolatile\\b"};
    private static final Set<String> LIBRARY = Set.of("Math.max", "Math.min", "Math.abs", "Math.floorMod",
        "Integer.compare");

    public static void main(String[] args) throws IOException {
        String text = Files.readString(PROGRAM);
        String code = withoutComments(text);
        for (String forbidden : FORBIDDEN) {
            DUE.no("the program has " + forbidden, Pattern.compile(forbidden).matcher(code).find());
        }
        library(code);
        DUE.no("a sign beyond 127", text.chars().anyMatch(sign -> sign > 127));
        DUE.no("a text joined by +", Pattern.compile("\"\\s*\\+|\\+\\s*\"").matcher(code).find());
        methods(Files.readAllLines(PROGRAM));
        List<Class<?>> classes = new ArrayList<>(Arrays.asList(TextShelves.class.getDeclaredClasses()));
        classes.add(TextShelves.class);
        for (Class<?> one : classes) {
            fields(one);
        }
        DUE.end();
    }

    private static String withoutComments(String text) {
        return text.replaceAll("(?s)/\\*.*?\\*/", "").replaceAll("//[^\n]*", "");
    }

    private static void library(String code) {
        Set<String> used = new TreeSet<>();
        Matcher matcher = Pattern.compile("\\b[A-Z][A-Za-z]*\\.[a-zA-Z]+").matcher(code);
        while (matcher.find()) {
            used.add(matcher.group());
        }
        used.removeAll(LIBRARY);
        DUE.is("calls of the library beside the known ones: " + used, used.size(), 0);
    }

    private static void methods(List<String> lines) {
        Pattern head = Pattern.compile("^( {4}| {8})(\\w[\\w\\[\\] ]*)?\\w+\\(([^()]*)\\) \\{$");
        for (int i = 0; i < lines.size(); i++) {
            Matcher matcher = head.matcher(lines.get(i));
            if (!matcher.matches()) {
                continue;
            }
            int end = i;
            while (!lines.get(end).equals(matcher.group(1) + "}")) {
                end++;
            }
            DUE.yes("short: " + lines.get(i), end - i < LONGEST_METHOD);
            DUE.yes("few parameters: " + lines.get(i), matcher.group(3).split(",").length <= MOST_PARAMETERS);
            makesNoObject(lines.subList(i, end));
        }
    }

    /** All rows are made with the object: whatever calls a run has, they need no more room. */
    private static void makesNoObject(List<String> method) {
        boolean constructs = Pattern.matches(" *(public )?[A-Z]\\w*\\(.*", method.get(0));
        boolean makes = Pattern.compile("\\bnew\\b|\\.clone\\(").matcher(withoutComments(String.join("\n", method))).find();
        DUE.no("makes an object: " + method.get(0), makes && !constructs);
    }

    private static void fields(Class<?> one) {
        int own = 0;
        for (Field field : one.getDeclaredFields()) {
            if (Modifier.isStatic(field.getModifiers())) {
                boolean constant = field.getType() == int.class || field.getType() == String.class;
                DUE.yes("a constant: " + field, constant && Modifier.isFinal(field.getModifiers()));
            } else {
                own++;
            }
        }
        DUE.yes("few fields: " + one, own <= MOST_FIELDS);
    }
}
