import java.lang.reflect.Constructor;
import java.lang.reflect.Field;
import java.lang.reflect.Method;
import java.lang.reflect.Modifier;
import java.nio.file.Files;
import java.nio.file.Path;
import java.util.ArrayList;
import java.util.Arrays;
import java.util.List;
import java.util.Set;
import java.util.TreeSet;
import java.util.regex.Matcher;
import java.util.regex.Pattern;

/** The rules of LANGUAGE.md, and the document's face, as far as a look at the source and the class can tell. */
public final class LanguageTest {
    private static final Set<String> FACE = new TreeSet<>(List.of(
        "int method(int,int,int,int)", "int code(int,int,int)", "int wipe(int)", "int build()", "int faultAt(int)",
        "int analyze(int)", "boolean reached(int,int)", "long state(int,int,int,int)", "long site(int,int)",
        "long field(int,int)", "long result(int,int)", "int verdict(int,int,int)", "int verdicts(int)",
        "boolean plant(int,int,int,int,int)", "boolean forgetState(int,int)", "int check()", "int argument(int,int)",
        "int fill(int,int,int)", "int forget()", "int run(int,int)", "long ran(int)", "int outside()"));
    private static final String[] FORBIDDEN = {
        "throw", "throws", "try", "catch", "finally", "synchronized", "assert", "protected", "native", "volatile",
        "transient", "yield", "var", "Object", "hashCode", "toString", "super", "extends", "Thread", "Random"
    };

    public static void main(String[] args) throws Exception {
        face();
        classes();
        String source = Files.readString(Path.of("src/main/java/AnalysisHouse.java"));
        String bare = source.replaceAll("(?s)/\\*.*?\\*/", "").replaceAll("//[^\n]*", "");
        words(bare);
        bodies(bare);
        Due.end("LanguageTest");
    }

    private static String told(Method method) {
        List<String> with = new ArrayList<>();
        for (Class<?> type : method.getParameterTypes()) {
            with.add(type.getName());
        }
        return method.getReturnType().getName() + " " + method.getName() + "(" + String.join(",", with) + ")";
    }

    private static void face() {
        Class<?> house = AnalysisHouse.class;
        Due.due("public and final", house.getModifiers() & (Modifier.PUBLIC | Modifier.FINAL),
            Modifier.PUBLIC | Modifier.FINAL);
        Set<String> open = new TreeSet<>();
        for (Method method : house.getDeclaredMethods()) {
            if (Modifier.isPublic(method.getModifiers())) {
                open.add(told(method));
            } else {
                Due.due("private " + method.getName(), Modifier.isPrivate(method.getModifiers()), true);
            }
        }
        Due.due("the face is " + open, open.equals(FACE), true);
        Constructor<?>[] makers = house.getDeclaredConstructors();
        Due.due("constructors", makers.length, 1);
        Due.due("of nothing", makers[0].getParameterCount(), 0);
        Due.due("public constructor", Modifier.isPublic(makers[0].getModifiers()), true);
        for (Field field : house.getDeclaredFields()) {
            boolean told = field.getName().equals("NONE") || field.getName().equals("NO");
            Due.due("field " + field.getName(), Modifier.isPublic(field.getModifiers()), told);
            Due.due("field " + field.getName() + " private", Modifier.isPrivate(field.getModifiers()), !told);
        }
    }

    private static void classes() {
        Class<?>[] inside = AnalysisHouse.class.getDeclaredClasses();
        Due.due("at most 12 classes", inside.length + 1 <= 12, true);
        Set<String> names = new TreeSet<>();
        for (String line : FACE) {
            names.add(line.substring(line.indexOf(' ') + 1, line.indexOf('(')));
        }
        List<Class<?>> all = new ArrayList<>(Arrays.asList(inside));
        all.add(AnalysisHouse.class);
        for (Class<?> type : all) {
            boolean outer = type == AnalysisHouse.class;
            Due.due(type + " static", outer || Modifier.isStatic(type.getModifiers()), true);
            Due.due(type + " not public", outer || !Modifier.isPublic(type.getModifiers()), true);
            int fields = 0;
            for (Field field : type.getDeclaredFields()) {
                if (!Modifier.isStatic(field.getModifiers())) {
                    fields++;
                    continue;
                }
                Due.due(field + " final", Modifier.isFinal(field.getModifiers()), true);
            }
            Due.due(type + " has some twenty fields", fields <= 20, true);
            for (Method method : type.getDeclaredMethods()) {
                Due.due(method + " takes 7 at most", method.getParameterCount() <= 7, true);
                Due.due(method + " has a name of its own", outer && Modifier.isPublic(method.getModifiers())
                    || !names.contains(method.getName()), true);
            }
        }
    }

    private static void words(String bare) {
        for (String word : FORBIDDEN) {
            Due.due("the word " + word, Pattern.compile("\\b" + word + "\\b").matcher(bare).find(), false);
        }
        Due.due("a lambda", bare.contains("->"), false);
        Due.due("a method reference", bare.contains("::"), false);
        Due.due("an Exact one", Pattern.compile("\\w+Exact\\b").matcher(bare).find(), false);
        Due.due("a text", bare.contains("\""), false);
        Due.due("a block of static", Pattern.compile("static\\s*\\{").matcher(bare).find(), false);
        Due.due("a package", Pattern.compile("(?m)^package").matcher(bare).find(), false);
        Matcher imports = Pattern.compile("(?m)^import ([^;]+);").matcher(bare);
        while (imports.find()) {
            Due.due("import of " + imports.group(1), imports.group(1).equals("java.util.Arrays"), true);
        }
        Matcher library = Pattern.compile("\\b(Math|Arrays|System|Integer|Long)\\.(\\w+)").matcher(bare);
        while (library.find()) {
            boolean fine = library.group(1).equals("Math") ? Set.of("min", "max", "abs", "floorMod").contains(library.group(2))
                : library.group().equals("Arrays.fill");
            Due.due(library.group(), fine, true);
        }
    }

    /** Methods are short, and none but constructors makes objects. */
    private static void bodies(String bare) {
        String[] lines = bare.split("\n");
        Pattern head = Pattern.compile("^( {4}| {8})(?! )([^=;]*)\\b(\\w+)\\([^;]*\\) \\{$");
        for (int i = 0; i < lines.length; i++) {
            Matcher found = head.matcher(lines[i]);
            if (!found.find() || found.group(2).contains("class ")) {
                continue;
            }
            int end = i + 1;
            while (end < lines.length && !lines[end].equals(found.group(1) + "}")) {
                end++;
            }
            String name = found.group(3);
            Due.due(name + " has " + (end - i + 1) + " lines: short", end - i + 1 <= 60, true);
            boolean maker = Character.isUpperCase(name.charAt(0));
            for (int k = i + 1; k < end; k++) {
                Due.due(name + " makes no object: " + lines[k].trim(), !maker && lines[k].contains("new "), false);
                Due.due("no line without an end: " + lines[k].trim(),
                    lines[k].matches(".*while \\(true\\).*|.*for \\(;;\\).*"), false);
            }
            i = end;
        }
    }
}
