import java.io.IOException;
import java.lang.reflect.Field;
import java.lang.reflect.Method;
import java.lang.reflect.Modifier;
import java.nio.file.Files;
import java.nio.file.Path;
import java.util.Arrays;
import java.util.List;
import java.util.Set;
import java.util.TreeSet;
import java.util.regex.Matcher;
import java.util.regex.Pattern;

/** Whether the class has the document's face, and keeps to what of ../shared/LANGUAGE.md can be seen from outside. */
final class LanguageTest {
    private static final Set<String> LIBRARY = Set.of("System.arraycopy", "Math.min", "Math.max", "Math.abs",
            "Math.floorMod", "Integer.bitCount");
    private static final String FORBIDDEN = "\\b(import|package|throw|throws|try|catch|finally|synchronized|assert|"
            + "volatile|transient|native|strictfp|protected|yield|var|enum|record|interface|Object|Random|Thread|hashCode|"
            + "toString|equals|getClass|ArithmeticException|RuntimeException|Exception|Error|Throwable)\\b|->|::|@";
    private static final int MOST_CLASSES = 12, MOST_FIELDS = 20, MOST_LINES = 60, MOST_PARAMETERS = 7;

    private static int wrong;

    public static void main(String[] args) throws IOException {
        Path root = Path.of(args.length > 0 ? args[0] : ".");
        face(Files.readString(root.resolve("../shared/DOC.md")));
        classes();
        source(Files.readString(root.resolve("src/main/java/InnerCircle.java")));
        System.out.println("LanguageTest: " + wrong + " not as due");
        if (wrong != 0) System.exit(1);
    }

    private static void due(boolean is, String what) {
        if (is) return;
        wrong++;
        System.out.println("LANGUAGE: " + what);
    }

    private static void face(String document) {
        String told = document.substring(document.indexOf("```java"));
        told = told.substring(0, told.indexOf("```", 7));
        Set<String> want = new TreeSet<>();
        Matcher matcher = Pattern.compile("public int (\\w+)\\((.*?)\\);").matcher(told);
        while (matcher.find()) want.add(matcher.group(1) + "(" + matcher.group(2).replaceAll(" \\w+(?=,|$)", "") + ")");
        Set<String> is = new TreeSet<>();
        for (Method method : InnerCircle.class.getDeclaredMethods()) {
            if (Modifier.isPrivate(method.getModifiers())) continue;
            due(Modifier.isPublic(method.getModifiers()) && method.getReturnType() == int.class, "rule 1: " + method);
            String types = String.join(", ", Arrays.stream(method.getParameterTypes()).map(Class::getName).toList());
            is.add(method.getName() + "(" + types + ")");
        }
        due(want.size() == 51, "the document tells 51 methods, found were " + want.size());
        due(is.equals(want), "rule 1: the face is " + is + ", due is " + want);
        due(InnerCircle.class.getDeclaredConstructors().length == 1, "rule 1: one constructor");
        due(Modifier.isFinal(InnerCircle.class.getModifiers()), "rule 1: final");
        Set<String> names = new TreeSet<>();
        for (String one : want) names.add(one.substring(0, one.indexOf('(')));
        for (Class<?> one : all()) {
            for (Method method : one.getDeclaredMethods()) {
                boolean isOfFace = one == InnerCircle.class && Modifier.isPublic(method.getModifiers());
                due(isOfFace || !names.contains(method.getName()), "rule 1: the name of " + method);
                due(method.getParameterCount() <= MOST_PARAMETERS, "rule 11: parameters of " + method);
            }
        }
    }

    private static List<Class<?>> all() {
        List<Class<?>> all = new java.util.ArrayList<>(List.of(InnerCircle.class.getDeclaredClasses()));
        all.add(InnerCircle.class);
        return all;
    }

    private static void classes() {
        Set<String> constants = Set.of("BAD", "FULL", "NONE", "STATE");
        due(all().size() <= MOST_CLASSES, "rule 11: " + all().size() + " classes");
        for (Class<?> one : all()) {
            if (one != InnerCircle.class) due(Modifier.isStatic(one.getModifiers()), "rule 2: static: " + one);
            due(one.getDeclaredClasses().length == 0 || one == InnerCircle.class, "rule 2: classes inside " + one);
            int own = 0;
            for (Field field : one.getDeclaredFields()) {
                boolean isStatic = Modifier.isStatic(field.getModifiers());
                if (!isStatic) own++;
                due(!isStatic || Modifier.isFinal(field.getModifiers()), "rule 5: " + field);
                boolean isPrivate = Modifier.isPrivate(field.getModifiers());
                due(one != InnerCircle.class || isPrivate || constants.contains(field.getName()), "rule 1: " + field);
            }
            due(own <= MOST_FIELDS, "rule 11: " + own + " fields in " + one);
        }
    }

    private static void source(String text) {
        for (int i = 0; i < text.length(); i++) due(text.charAt(i) < 128, "rule 4: the sign at " + i);
        String code = text.replaceAll("(?s)/\\*.*?\\*/", "").replaceAll("//[^\n]*", "");
        code = code.replaceAll("\"[^\"\n]*\"", "\"\"").replaceAll("'[^'\n]+'", "' '");
        Matcher forbidden = Pattern.compile(FORBIDDEN).matcher(code);
        while (forbidden.find()) due(false, "rule 4 or 6: " + forbidden.group());
        Matcher library = Pattern.compile("\\b(System|Math|Integer|Long|Arrays|List|String|Character|Byte|Short)\\.(\\w+)").matcher(code);
        while (library.find()) due(LIBRARY.contains(library.group()), "rule 4: " + library.group());
        Matcher texts = Pattern.compile("\"\" *\\+|\\+ *\"\"").matcher(code);
        while (texts.find()) due(false, "rule 10: texts are joined");
        methods(text);
    }

    private static void methods(String text) {
        String[] lines = text.split("\n");
        int from = 0;
        for (int i = 0; i < lines.length; i++) {
            if (lines[i].matches("( {4}| {8})[a-z].*\\) \\{")) from = i;
            if (lines[i].matches("( {4}| {8})\\}") && from > 0) {
                due(i - from < MOST_LINES, "rule 11: " + (i - from + 1) + " lines from line " + (from + 1));
                from = 0;
            }
        }
    }
}
