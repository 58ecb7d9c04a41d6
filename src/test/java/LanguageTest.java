import java.lang.reflect.Constructor;
import java.lang.reflect.Field;
import java.lang.reflect.Method;
import java.lang.reflect.Modifier;
import java.nio.file.Files;
import java.nio.file.Path;
import java.util.Map;
import java.util.Set;
import java.util.TreeMap;
import java.util.TreeSet;
import java.util.regex.Matcher;
import java.util.regex.Pattern;

/** The rules of LANGUAGE.md that can be seen from the text or from the compiled class. */
public final class LanguageTest {
    private static final Check check = new Check("LanguageTest");
    private static final Set<String> FACE = Set.of("feed", "end", "plan", "fault", "unit", "setting", "choose", "whole", "part", "inflow",
        "comes", "grams", "purity", "earns", "cost", "worth", "best", "chance", "lorry", "strike", "brought", "share", "about");
    private static final String[] FORBIDDEN = {"\\bthrow\\b", "\\bthrows\\b", "\\btry\\b", "\\bcatch\\b", "\\bsynchronized\\b", "\\bassert\\b",
        "->", "::", "\\bstatic\\s*\\{", "Exact\\b", "\\bSystem\\.(?!arraycopy)", "\\bhashCode\\b", "\\btoString\\b", "\\bObject\\b",
        "\\bimport (?!java\\.util\\.(Arrays|ArrayList|List|Iterator);)", "\\bpackage\\b", "\\bdouble\\b", "\\bfloat\\b", "\\bprotected\\b",
        "while \\(true\\)", "for \\(;;\\)"};

    public static void main(String[] args) throws Exception {
        String source = Files.readString(Path.of("src/main/java/SortWorks.java"));
        String code = source.replaceAll("(?s)/\\*.*?\\*/", "").replaceAll("//[^\n]*", "");
        for (String forbidden : FORBIDDEN) {
            check.due(forbidden, Pattern.compile(forbidden).matcher(code).find(), false);
        }
        check.due("signs of the source", source.chars().allMatch(c -> c == 10 || c >= 32 && c < 127), true);
        face();
        for (Class<?> inner : SortWorks.class.getDeclaredClasses()) {
            insideClass(inner);
        }
        check.due("classes", SortWorks.class.getDeclaredClasses().length <= 11, true);
        methodLengths(code);
        callDepths(code);
        check.finish();
    }

    private static void face() {
        check.due("final", Modifier.isFinal(SortWorks.class.getModifiers()), true);
        Set<String> seen = new TreeSet<>();
        for (Method method : SortWorks.class.getDeclaredMethods()) {
            boolean open = !Modifier.isPrivate(method.getModifiers());
            check.due("face of " + method.getName(), open, FACE.contains(method.getName()));
            if (open) {
                seen.add(method.getName());
                check.due("public " + method.getName(), Modifier.isPublic(method.getModifiers()), true);
            }
        }
        check.due("methods of the face", seen.size(), FACE.size());
        for (Field field : SortWorks.class.getDeclaredFields()) {
            check.due("face of " + field.getName(), !Modifier.isPrivate(field.getModifiers()), field.getName().equals("NONE"));
        }
        for (Constructor<?> made : SortWorks.class.getDeclaredConstructors()) {
            check.due("constructor", made.getParameterCount(), 0);
        }
        fields(SortWorks.class);
    }

    private static void insideClass(Class<?> inner) {
        check.due("static " + inner, Modifier.isStatic(inner.getModifiers()), true);
        check.due("inside " + inner, inner.getDeclaredClasses().length, 0);
        for (Method method : inner.getDeclaredMethods()) {
            check.due("the name " + method, FACE.contains(method.getName()), false);
            check.due("parameters of " + method, method.getParameterCount() <= 7, true);
        }
        fields(inner);
    }

    private static void fields(Class<?> owner) {
        int own = 0;
        for (Field field : owner.getDeclaredFields()) {
            if (Modifier.isStatic(field.getModifiers())) {
                check.due("final " + field, Modifier.isFinal(field.getModifiers()), true);
            } else {
                own++;
            }
        }
        check.due("fields of " + owner, own <= 20, true);
    }

    private static void methodLengths(String code) {
        Matcher start = Pattern.compile("(?m)^( {4}| {8})(public|private)[^;={]*\\([^;{]*\\) \\{$").matcher(code);
        int methods = 0;
        while (start.find()) {
            int end = code.indexOf("\n" + start.group(1) + "}\n", start.end());
            long lines = code.substring(start.start(), end).lines().count();
            check.due(start.group() + " has lines: " + lines, lines <= 60, true);
            methods++;
        }
        check.due("methods seen", methods > 60, true);
    }

    /** By names alone: two methods of one name count as one, so a depth may be told too great, never too small. */
    private static void callDepths(String code) {
        Map<String, Set<String>> calls = new TreeMap<>();
        Matcher start = Pattern.compile("(?m)^( {4}| {8})(?:public|private)[^;={]*?(\\w+)\\([^;{]*\\) \\{$").matcher(code);
        while (start.find()) {
            String body = code.substring(start.end(), code.indexOf("\n" + start.group(1) + "}\n", start.end()));
            Matcher called = Pattern.compile("(\\w+)\\(").matcher(body);
            Set<String> names = calls.computeIfAbsent(start.group(2), name -> new TreeSet<>());
            while (called.find()) {
                names.add(called.group(1));
            }
        }
        for (String name : calls.keySet()) {
            check.due("calls below " + name, depth(name, calls, 1) <= 8, true);
        }
    }

    private static int depth(String name, Map<String, Set<String>> calls, int level) {
        int deepest = level;
        for (String called : calls.get(name)) {
            if (level <= 8 && calls.containsKey(called)) {
                deepest = Math.max(deepest, depth(called, calls, level + 1));
            }
        }
        return deepest;
    }
}
