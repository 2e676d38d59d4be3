import java.io.IOException;
import java.lang.reflect.Constructor;
import java.lang.reflect.Field;
import java.lang.reflect.Method;
import java.lang.reflect.Modifier;
import java.nio.file.Files;
import java.nio.file.Path;
import java.util.Arrays;
import java.util.List;
import java.util.Set;
import java.util.TreeSet;
import java.util.regex.Matcher;
import java.util.regex.Pattern;
import java.util.stream.Collectors;

/** The face is that of the document, to the letter, and what LANGUAGE.md rules out is not there. */
public final class LanguageTest {
    private static final String FILE = "src/main/java/WhistleStop.java";
    private static final String DOCUMENT = "../shared/DOC.md";
    private static final int MOST_LINES = 60;
    private static final int MOST_PARAMETERS = 7;
    private static final List<String> RULED_OUT = List.of("->", "::", "\\bcatch\\b", "\\btry\\b", "\\bfinally\\b",
        "\\bsynchronized\\b", "\\bassert\\b", "\\bpackage\\b", "\\bprotected\\b", "\\binstanceof\\b", "Exact\\b",
        "\\bfloat\\b", "\\bSystem\\.(?!arraycopy\\b)", "\\bObject\\b", "\\bequals\\b", "\\bhashCode\\b",
        "\\btoString\\b", "Math\\.(?!(min|max|floorDiv|floorMod|abs)\\b)", "Arrays\\.(?!(fill|copyOf)\\b)",
        "throw new (?!(IndexOutOfBoundsException|IllegalArgumentException|IllegalStateException)\\(\")");

    private static int wrong = 0;

    public static void main(String[] args) throws IOException {
        String text = Files.readString(Path.of(FILE));
        check(text.chars().allMatch(c -> c < 128), "a sign is not 1 to 127");
        String code = text.replaceAll("//[^\n]*", "").replaceAll("(?s)/\\*.*?\\*/", "");
        for (String pattern : RULED_OUT) {
            Matcher found = Pattern.compile(pattern).matcher(code);
            check(!found.find(), pattern + " is ruled out");
        }
        check(code.lines().filter(line -> line.startsWith("import ")).allMatch("import java.util.Arrays;"::equals),
            "an import is ruled out");
        checkFace(code);
        checkLengths(text);
        checkMembers();
        System.out.println(wrong == 0 ? "the language is kept to" : wrong + " rules are broken");
        if (wrong != 0) {
            System.exit(1);
        }
    }

    private static void check(boolean isKept, String what) {
        if (!isKept) {
            wrong++;
            System.out.println(what);
        }
    }

    private static void checkFace(String code) throws IOException {
        String flat = code.replaceAll("\\s+", " ");
        for (String line : Files.readAllLines(Path.of(DOCUMENT))) {
            String row = line.strip();
            if (row.startsWith("public ") && row.endsWith(";")) {
                check(flat.contains(row.substring(0, row.length() - 1) + " {"), "the face lacks " + row);
            }
        }
        check(code.split("\\bpublic\\b", -1).length - 1 == 38, "there is more that is public than the face");
    }

    /** A method ends at the first brace that stands as far to the right as it begins. */
    private static void checkLengths(String text) {
        List<String> lines = text.lines().collect(Collectors.toList());
        for (int first = 0; first < lines.size(); first++) {
            String line = lines.get(first);
            String indent = line.substring(0, line.length() - line.stripLeading().length());
            boolean isMember = indent.length() == 4 || indent.length() == 8;
            if (isMember && line.matches(".*\\w\\(.*") && !line.matches(" *(for|if|while|return|throw|//|\\*).*")
                && !line.endsWith(";")) {
                int end = first + lines.subList(first, lines.size()).indexOf(indent + "}");
                check(end >= first && end - first < MOST_LINES, "from line " + (first + 1) + " a method is too long");
            }
        }
    }

    private static void checkMembers() {
        Class<?> outer = WhistleStop.class;
        check(Modifier.isFinal(outer.getModifiers()), "the class is not final");
        Set<String> face = new TreeSet<>();
        for (Method method : outer.getDeclaredMethods()) {
            boolean isPublic = Modifier.isPublic(method.getModifiers());
            check(isPublic || Modifier.isPrivate(method.getModifiers()), method + " is neither public nor private");
            check(method.getParameterCount() <= MOST_PARAMETERS, method + " takes too much");
            if (isPublic) {
                check(face.add(method.getName()), method + " is there twice");
            }
        }
        for (Constructor<?> constructor : outer.getDeclaredConstructors()) {
            check(Modifier.isPublic(constructor.getModifiers()), constructor + " is not public");
        }
        for (Class<?> inner : outer.getDeclaredClasses()) {
            check(Modifier.isStatic(inner.getModifiers()), inner + " is not static");
            check(!Modifier.isPublic(inner.getModifiers()), inner + " is public");
            checkFields(inner);
            for (Method method : inner.getDeclaredMethods()) {
                check(!face.contains(method.getName()), method + " bears the name of a public one");
                check(method.getParameterCount() <= MOST_PARAMETERS, method + " takes too much");
            }
        }
        check(outer.getDeclaredClasses().length <= 12, "there are too many classes");
        for (Method method : outer.getDeclaredMethods()) {
            check(Modifier.isPublic(method.getModifiers()) || !face.contains(method.getName()),
                method + " bears the name of a public one");
        }
        checkFields(outer);
        for (Field field : outer.getDeclaredFields()) {
            check(Modifier.isPrivate(field.getModifiers()), field + " is not private");
        }
    }

    private static void checkFields(Class<?> owner) {
        List<Field> fields = Arrays.stream(owner.getDeclaredFields())
            .filter(f -> !Modifier.isStatic(f.getModifiers())).collect(Collectors.toList());
        check(fields.size() <= 20, owner + " has too many fields");
        for (Field field : owner.getDeclaredFields()) {
            boolean isStatic = Modifier.isStatic(field.getModifiers());
            boolean isConstant = field.getType() == int.class || field.getType() == long.class;
            check(!isStatic || Modifier.isFinal(field.getModifiers()) && isConstant, field + " is no constant");
        }
    }
}
