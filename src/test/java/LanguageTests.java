import java.io.IOException;
import java.lang.reflect.Constructor;
import java.lang.reflect.Field;
import java.lang.reflect.Method;
import java.lang.reflect.Modifier;
import java.nio.file.Files;
import java.nio.file.Path;
import java.util.Arrays;
import java.util.HashSet;
import java.util.List;
import java.util.Set;
import java.util.regex.Matcher;
import java.util.regex.Pattern;

/** The rules of ../shared/LANGUAGE.md that can be seen from the text of ToldWays.java and from its members. */
final class LanguageTests {
    private static final List<String> FACE = List.of("feed", "land", "fault", "told", "way", "person", "far", "law", "learn", "habit",
        "route", "says", "own", "led", "soonest", "guide", "lot", "say", "learnt", "missing", "lack", "fits", "log", "clear", "judge",
        "drift", "seed", "keep", "goBack");

    private LanguageTests() {
    }

    static void run(Tally tally, String file) throws IOException {
        String code = withoutComments(Files.readString(Path.of(file)));
        tally.begin("LANGUAGE.md");
        words(tally, code);
        library(tally, code);
        face(tally);
        inside(tally);
    }

    private static String withoutComments(String text) {
        return text.replaceAll("(?s)/\\*.*?\\*/", "").replaceAll("//[^\n]*", "").replaceAll("\"[^\"\n]*\"", "\"\"");
    }

    private static void words(Tally tally, String code) {
        for (String word : List.of("throw", "throws", "try", "catch", "finally", "synchronized", "assert", "package", "native", "volatile",
            "transient", "strictfp", "protected", "var", "toString", "hashCode", "float", "double", "NullPointerException", "Exact", "Random",
            "nanoTime", "currentTimeMillis", "Thread", "Object", "Class")) {
            tally.holds("without " + word, !Pattern.compile("\\b" + word + "\\b").matcher(code).find());
        }
        tally.holds("without a lambda", !code.contains("->"));
        tally.holds("without a method reference", !code.contains("::"));
        tally.holds("without annotations", !code.contains("@"));
        tally.holds("without texts that are joined", !code.contains("\" +") && !code.contains("+ \""));
        tally.holds("signs up to 127", code.chars().allMatch(sign -> sign < 128));
    }

    private static void library(Tally tally, String code) {
        Matcher imports = Pattern.compile("\\bimport ([^;]*);").matcher(code);
        while (imports.find()) {
            tally.holds("import " + imports.group(1), List.of("java.util.Arrays", "java.util.ArrayList", "java.util.List").contains(imports.group(1)));
        }
        Set<String> allowed = Set.of("Arrays.fill", "Arrays.copyOf", "Arrays.copyOfRange", "System.arraycopy", "Math.min", "Math.max", "Math.abs",
            "Integer.bitCount");
        Matcher calls = Pattern.compile("\\b(Arrays|System|Math|Integer|Long|String|List|Character|Boolean|Objects)\\.[a-zA-Z]+").matcher(code);
        while (calls.find()) {
            tally.holds(calls.group(), allowed.contains(calls.group()));
        }
        // Objects and rows are made in constructors and for the fields alone.
        Matcher made = Pattern.compile("\n( *)([^\n]*\\bnew [^\n]*)").matcher(code);
        while (made.find()) {
            tally.holds("made for a field: " + made.group(2), made.group(2).matches("(private final )?[a-zA-Z\\[\\]. ]* = new .*"));
        }
    }

    private static void face(Tally tally) {
        Set<String> found = new HashSet<>();
        for (Method method : ToldWays.class.getDeclaredMethods()) {
            int modifiers = method.getModifiers();
            if (method.isSynthetic()) {
                continue;
            }
            boolean ofFace = FACE.contains(method.getName());
            tally.holds(method + " is public or private", Modifier.isPublic(modifiers) == ofFace && Modifier.isPrivate(modifiers) != ofFace);
            tally.holds(method + " is one of its name", !ofFace || found.add(method.getName()));
        }
        tally.due("methods of the face", FACE.size(), found.size());
        Constructor<?>[] constructors = ToldWays.class.getDeclaredConstructors();
        tally.holds("one public constructor", constructors.length == 1 && Modifier.isPublic(constructors[0].getModifiers()));
        tally.holds("public final", Modifier.isPublic(ToldWays.class.getModifiers()) && Modifier.isFinal(ToldWays.class.getModifiers()));
        List<String> constants = List.of("NONE", "UNKNOWN", "OUTSIDE", "NOT", "FULL");
        for (Field field : ToldWays.class.getDeclaredFields()) {
            boolean is = constants.contains(field.getName());
            tally.holds(field + " is public or private", is ? Modifier.isPublic(field.getModifiers()) : Modifier.isPrivate(field.getModifiers()));
        }
    }

    private static void inside(Tally tally) {
        Class<?>[] classes = ToldWays.class.getDeclaredClasses();
        tally.holds("twelve classes at most", classes.length < 12);
        for (Class<?> one : classes) {
            int modifiers = one.getModifiers();
            tally.holds(one + " is static, and not of the face", Modifier.isStatic(modifiers) && !Modifier.isPublic(modifiers));
            for (Method method : one.getDeclaredMethods()) {
                tally.holds(method + " does not bear a name of the face", method.isSynthetic() || !FACE.contains(method.getName()));
            }
            members(tally, one);
        }
        members(tally, ToldWays.class);
    }

    private static void members(Tally tally, Class<?> one) {
        int fields = 0;
        for (Field field : one.getDeclaredFields()) {
            boolean fixed = Modifier.isStatic(field.getModifiers());
            fields += fixed ? 0 : 1;
            tally.holds(field + " is final, if it is static", !fixed || Modifier.isFinal(field.getModifiers()));
        }
        tally.holds(one + " has twenty fields at most", fields <= 20);
        for (Method method : one.getDeclaredMethods()) {
            tally.holds(method + " takes seven parameters at most", method.getParameterCount() <= 7);
        }
        tally.holds(one + " has classes in one level", one == ToldWays.class || Arrays.asList(one.getDeclaredClasses()).isEmpty());
    }
}
