import java.io.IOException;
import java.lang.reflect.Field;
import java.lang.reflect.Method;
import java.lang.reflect.Modifier;
import java.nio.file.Files;
import java.nio.file.Path;
import java.util.Set;
import java.util.TreeSet;
import java.util.regex.Matcher;
import java.util.regex.Pattern;

/** The public face of the document, and those rules of LANGUAGE.md that a look at the source can tell. */
public final class LanguageTest {
    private static final Path SOURCE = Path.of("src/main/java/NeedlePairs.java");
    private static final Set<String> FACE = Set.of(
            "point(int,int,int)", "pop()", "move(int,int,int)", "near(int)", "of(int,int)", "far(int,int)",
            "attempt(int,int)", "time(int,int)", "say(int)", "wipe()", "told()", "best(int)", "nearest(int)",
            "loosen(int,int)", "join(int,int,int)", "sees()", "fits(int)", "hidden(int)", "halves(int,int)",
            "image(int)", "restore(int)", "count(int)");
    private static final Set<String> CONSTANTS =
            Set.of("UNKNOWN", "OUTSIDE", "STATE", "FULL", "NO", "NONE", "FAULT");
    private static final String[] RULED_OUT = {
        "\\bthrows?\\b", "\\btry\\b", "\\bcatch\\b", "\\bsynchronized\\b", "\\bassert\\b", "\\bpackage\\b", "->", "::",
        "\\bimport\\b", "Exact\\b", "\\bnative\\b", "\\bstatic\\s*\\{", "\\bThread\\b", "\\bSystem\\.(?!arraycopy)"
    };
    /** Of the library that LANGUAGE.md lists, what the program uses; a new name is to be looked up there first. */
    private static final Set<String> LIBRARY = Set.of("Integer.bitCount", "Math.max", "Math.min", "Math.abs");
    private static final int LONGEST_METHOD = 60;
    private static int wrong = 0;

    private static void due(boolean holds, String what) {
        if (!holds) {
            wrong++;
            System.out.println("not so: " + what);
        }
    }

    public static void main(String[] args) throws IOException {
        face();
        constants();
        insideClasses();
        source();
        System.out.println(wrong == 0 ? "face and language are as told" : wrong + " things are not as told");
        if (wrong != 0) {
            System.exit(1);
        }
    }

    private static String signature(Method method) {
        StringBuilder text = new StringBuilder(method.getName()).append('(');
        for (Class<?> type : method.getParameterTypes()) {
            text.append(text.charAt(text.length() - 1) == '(' ? "" : ",").append(type.getName());
        }
        return text.append(')').toString();
    }

    private static void face() {
        Set<String> found = new TreeSet<>();
        Set<String> names = new TreeSet<>();
        for (Method method : NeedlePairs.class.getDeclaredMethods()) {
            if (Modifier.isPublic(method.getModifiers())) {
                found.add(signature(method));
                names.add(method.getName());
                due(method.getReturnType() == int.class, method.getName() + " answers an int");
                due(!Modifier.isStatic(method.getModifiers()), method.getName() + " is not static");
            }
        }
        due(found.equals(FACE), "the public methods are those of the document: " + found);
        for (Method method : NeedlePairs.class.getDeclaredMethods()) {
            if (!Modifier.isPublic(method.getModifiers())) {
                due(Modifier.isPrivate(method.getModifiers()), method.getName() + " is private");
                due(!names.contains(method.getName()), method.getName() + " is no name of a public method");
            }
        }
        due(Modifier.isFinal(NeedlePairs.class.getModifiers()), "the class is final");
        due(Modifier.isPublic(NeedlePairs.class.getModifiers()), "the class is public");
        due(NeedlePairs.class.getDeclaredConstructors().length == 1, "there is one constructor");
        due(NeedlePairs.class.getConstructors().length == 1, "the constructor is public");
    }

    private static void constants() {
        Set<String> found = new TreeSet<>();
        for (Field field : NeedlePairs.class.getDeclaredFields()) {
            int modifiers = field.getModifiers();
            if (Modifier.isPublic(modifiers)) {
                found.add(field.getName());
                due(Modifier.isStatic(modifiers) && Modifier.isFinal(modifiers), field.getName() + " is a constant");
            } else {
                due(Modifier.isPrivate(modifiers), field.getName() + " is private");
            }
            due(!Modifier.isStatic(modifiers) || Modifier.isFinal(modifiers), field.getName() + " static, so final");
        }
        due(found.equals(CONSTANTS), "the public constants are those of the document: " + found);
    }

    private static void insideClasses() {
        Class<?>[] inside = NeedlePairs.class.getDeclaredClasses();
        due(inside.length < 12, "there are fewer than twelve classes inside");
        for (Class<?> one : inside) {
            due(Modifier.isStatic(one.getModifiers()), one.getName() + " is static");
            due(!Modifier.isPublic(one.getModifiers()), one.getName() + " is not public");
            due(one.getDeclaredFields().length <= 20, one.getName() + " has at most twenty fields");
            for (Field field : one.getDeclaredFields()) {
                due(!Modifier.isStatic(field.getModifiers()), one.getName() + ": " + field.getName() + " is not static");
            }
            for (Method method : one.getDeclaredMethods()) {
                due(method.getParameterCount() <= 7, method.getName() + " takes at most seven parameters");
                due(!isOfFace(method.getName()), one.getName() + ": " + method.getName() + " is no name of the face");
            }
        }
    }

    private static boolean isOfFace(String name) {
        return FACE.stream().anyMatch(signature -> signature.startsWith(name + "("));
    }

    private static void source() throws IOException {
        String text = Files.readString(SOURCE)
                .replaceAll("(?s)/\\*.*?\\*/", " ")
                .replaceAll("//[^\n]*", " ")
                .replaceAll("\"[^\"\n]*\"", "\"\"");
        for (String ruled : RULED_OUT) {
            Matcher matcher = Pattern.compile(ruled).matcher(text);
            due(!matcher.find(), "the source has no " + ruled);
        }
        library(text);
        methods(text);
    }

    private static void library(String text) {
        Matcher matcher = Pattern.compile("\\b[A-Z][A-Za-z]*\\.\\w+").matcher(text);
        while (matcher.find()) {
            due(LIBRARY.contains(matcher.group()), matcher.group() + " is in the list of what may be used");
        }
    }

    /** A method begins with its head and ends with the brace that stands as far in as its head. */
    private static void methods(String text) {
        Matcher matcher = Pattern.compile("(?ms)^( +)(?:public|private)[^;=\n]*\\) \\{\n.*?^\\1\\}").matcher(text);
        int found = 0;
        while (matcher.find()) {
            found++;
            String head = matcher.group().lines().findFirst().orElse("").trim();
            due(matcher.group().lines().count() <= LONGEST_METHOD, head + " is short");
            boolean isConstructor = head.startsWith("public NeedlePairs(");
            // All calls of a run share one room: what a call needs is made with the object.
            due(isConstructor || !Pattern.compile("\\bnew\\b").matcher(matcher.group()).find(), head + " makes nothing");
        }
        due(found > FACE.size(), "the methods were found: " + found);
    }
}
