import java.lang.reflect.Constructor;
import java.lang.reflect.Field;
import java.lang.reflect.Method;
import java.lang.reflect.Modifier;
import java.nio.file.Files;
import java.nio.file.Path;
import java.util.Map;
import java.util.Set;
import java.util.TreeMap;
import java.util.TreeSet;
import java.util.regex.Matcher;
import java.util.regex.Pattern;

/** The face that the document gives, and those rules of LANGUAGE.md that can be read off the class and its source. */
public final class LanguageTest {
    private static final Path SOURCE = Path.of("src/main/java/HiredClaque.java");
    private static final Path DOCUMENT = Path.of("../shared/DOC.md");

    public static void main(String[] args) throws Exception {
        faceIsAsTold();
        nothingElseIsSeen();
        namesOfTheFaceAreTheFaces();
        constants();
        String source = withoutComments(Files.readString(SOURCE));
        wordsOfTheSource(source);
        sizes(source);
        Due.end();
    }

    private static void faceIsAsTold() throws Exception {
        Set<String> told = new TreeSet<>();
        Matcher m = Pattern.compile("public (int|long) (\\w+)\\(([^)]*)\\);").matcher(Files.readString(DOCUMENT));
        while (m.find()) {
            String kinds = m.group(3).replaceAll("(int|long) \\w+", "$1").replace(" ", "");
            told.add(m.group(1) + " " + m.group(2) + "(" + kinds + ")");
        }
        Set<String> found = new TreeSet<>();
        for (Method method : HiredClaque.class.getDeclaredMethods()) {
            if (Modifier.isPublic(method.getModifiers())) {
                found.add(signature(method));
            }
        }
        Due.eq("methods told", told.size(), 45);
        Due.eq("rule 1: the face is " + found + ", told is " + told, found.equals(told) ? 0 : 1, 0);
        Due.eq("public and final", HiredClaque.class.getModifiers(), Modifier.PUBLIC | Modifier.FINAL);
        Due.eq("one constructor", HiredClaque.class.getConstructors().length, 1);
    }

    private static String signature(Method method) {
        StringBuilder kinds = new StringBuilder();
        for (Class<?> kind : method.getParameterTypes()) {
            kinds.append(kinds.length() == 0 ? "" : ",").append(kind.getName());
        }
        return method.getReturnType().getName() + " " + method.getName() + "(" + kinds + ")";
    }

    private static void nothingElseIsSeen() {
        for (Method method : HiredClaque.class.getDeclaredMethods()) {
            seen("method " + method, method.getModifiers());
        }
        for (Constructor<?> constructor : HiredClaque.class.getDeclaredConstructors()) {
            seen("constructor " + constructor, constructor.getModifiers());
        }
        for (Field field : HiredClaque.class.getDeclaredFields()) {
            seen("field " + field, field.getModifiers());
            staticIsFinal(field);
        }
        Class<?>[] inside = HiredClaque.class.getDeclaredClasses();
        Due.eq("rule 11: classes", inside.length <= 12 ? 0 : inside.length, 0);
        fields(HiredClaque.class);
        for (Class<?> one : inside) {
            fields(one);
            Due.eq("rule 2: static " + one, Modifier.isStatic(one.getModifiers()) ? 1 : 0, 1);
            Due.eq("rule 1: not public " + one, one.getModifiers() & (Modifier.PUBLIC | Modifier.PROTECTED), 0);
            for (Field field : one.getDeclaredFields()) {
                staticIsFinal(field);
            }
        }
    }

    private static void fields(Class<?> one) {
        int count = 0;
        for (Field field : one.getDeclaredFields()) {
            count += Modifier.isStatic(field.getModifiers()) ? 0 : 1;
        }
        Due.eq("rule 11: fields of " + one, count <= 20 ? 0 : count, 0);
    }

    private static void seen(String what, int modifiers) {
        Due.eq("rule 1: " + what, Modifier.isPublic(modifiers) || Modifier.isPrivate(modifiers) ? 0 : 1, 0);
    }

    private static void staticIsFinal(Field field) {
        boolean fine = !Modifier.isStatic(field.getModifiers()) || Modifier.isFinal(field.getModifiers());
        Due.eq("rule 5: " + field, fine ? 0 : 1, 0);
    }

    private static void namesOfTheFaceAreTheFaces() {
        Set<String> face = new TreeSet<>();
        for (Method method : HiredClaque.class.getMethods()) {
            face.add(method.getName());
        }
        for (Method method : HiredClaque.class.getDeclaredMethods()) {
            if (!Modifier.isPublic(method.getModifiers())) {
                Due.eq("rule 1: name of " + method, face.contains(method.getName()) ? 1 : 0, 0);
            }
            parameters(method);
        }
        for (Class<?> one : HiredClaque.class.getDeclaredClasses()) {
            for (Method method : one.getDeclaredMethods()) {
                Due.eq("rule 1: name of " + method, face.contains(method.getName()) ? 1 : 0, 0);
                parameters(method);
            }
        }
    }

    private static void parameters(Method method) {
        Due.eq("rule 11: parameters of " + method, method.getParameterCount() <= 7 ? 0 : 1, 0);
    }

    private static void constants() {
        Due.eq("BAD", HiredClaque.BAD, -1);
        Due.eq("FULL", HiredClaque.FULL, -2);
        Due.eq("NONE", HiredClaque.NONE, -3);
    }

    /** Rule 11 by the source: its methods are found by their heads and the brackets that close them. */
    private static void sizes(String source) {
        Map<String, String> bodies = new TreeMap<>();
        int found = 0;
        Matcher heads = Pattern.compile("(?m)^( +)[\\w\\[\\] ]*?(\\w+)\\([^()]*\\) \\{\n((?s:.*?\n)??)\\1\\}$").matcher(source);
        while (heads.find()) {
            long lines = heads.group().lines().count();
            Due.eq("rule 11: lines of " + heads.group(2), lines <= 60 ? 0 : lines, 0);
            bodies.merge(heads.group(2), heads.group(3), String::concat);
            found += Character.isLowerCase(heads.group(2).charAt(0)) ? 1 : 0;
        }
        int methods = HiredClaque.class.getDeclaredMethods().length;
        for (Class<?> one : HiredClaque.class.getDeclaredClasses()) {
            methods += one.getDeclaredMethods().length;
        }
        Due.eq("methods found in the source", found, methods);
        for (String name : bodies.keySet()) {
            int deep = depth(name, bodies, new TreeSet<>());
            Due.eq("rule 11: calls from " + name, deep <= 8 ? 0 : deep, 0);
        }
    }

    /** How many methods are open at once, at most, by their names alone; rule 8: only run calls itself. */
    private static int depth(String name, Map<String, String> bodies, Set<String> open) {
        open.add(name);
        int most = 0;
        Matcher calls = Pattern.compile("\\b(\\w+)\\(").matcher(bodies.get(name));
        while (calls.find()) {
            String called = calls.group(1);
            if (!bodies.containsKey(called)) {
                continue;
            }
            if (open.contains(called)) {
                Due.eq("rule 8: " + name + " calls " + called, called.equals("run") && name.equals("run") ? 0 : 1, 0);
            } else {
                most = Math.max(most, depth(called, bodies, open));
            }
        }
        open.remove(name);
        return 1 + most;
    }

    private static String withoutComments(String source) {
        return source.replaceAll("(?s)/\\*.*?\\*/", " ").replaceAll("//[^\n]*", " ");
    }

    private static void wordsOfTheSource(String source) {
        absent(source, "rule 6", "\\b(throws?|try|catch|finally|synchronized|assert|instanceof|equals|hashCode|toString)\\b");
        absent(source, "rule 2", "->|::|\\bnew\\s+\\w+\\s*\\([^)]*\\)\\s*\\{");
        absent(source, "rules 3 and 4", "\\b(import|package|var|Object|double|float|List|Thread|Random|native|volatile)\\b");
        absent(source, "rule 4: signs", "[^\\x01-\\x7f]");
        absent(source, "rule 5", "\\bstatic\\s*\\{");
        Matcher calls = Pattern.compile("\\b([A-Z][a-z]\\w*)\\.(\\w+)").matcher(source);
        Set<String> library = Set.of("Integer.bitCount", "Math.max", "Math.min", "System.arraycopy");
        Set<String> own = Set.of("Tape", "Stage", "House", "Sheet");
        while (calls.find()) {
            boolean fine = own.contains(calls.group(1)) || library.contains(calls.group());
            Due.eq("rule 4: " + calls.group(), fine ? 0 : 1, 0);
        }
    }

    private static void absent(String source, String rule, String pattern) {
        Matcher m = Pattern.compile(pattern).matcher(source);
        while (m.find()) {
            Due.eq(rule + ": " + m.group(), 1, 0);
        }
    }
}
