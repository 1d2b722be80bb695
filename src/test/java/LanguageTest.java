import java.io.IOException;
import java.lang.reflect.Constructor;
import java.lang.reflect.Field;
import java.lang.reflect.Method;
import java.lang.reflect.Modifier;
import java.nio.charset.StandardCharsets;
import java.nio.file.Files;
import java.nio.file.Path;
import java.util.Set;
import java.util.TreeSet;
import java.util.regex.Matcher;
import java.util.regex.Pattern;

/** The rules of LANGUAGE.md that can be seen in the text of the class or in its members. */
public final class LanguageTest {
    private static final Set<String> FACE = Set.of(
        "setVotes", "begin", "setTarget", "draft", "trade", "snake", "adopt", "propose", "freeze",
        "type", "clearText", "readVotes", "undo", "keep", "restore",
        "cell", "part", "district", "why", "advice", "party", "fairness", "count");
    private static final Set<String> CONSTANTS = Set.of("UNKNOWN", "BAD_VALUE", "FULL", "NOT_POSSIBLE", "NONE");

    public static void main(String[] args) throws IOException {
        String source = Files.readString(Path.of("src/main/java/FrozenDistricts.java"), StandardCharsets.UTF_8);
        words(source);
        face();
        nested();
        lengths(source);
        fields();
        Check.end("LanguageTest");
    }

    private static void words(String source) {
        String code = source.replaceAll("(?s)/\\*.*?\\*/", " ").replaceAll("//[^\n]*", " ");
        String[] forbidden = {
            "\\bthrows?\\b", "\\btry\\b", "\\bcatch\\b", "\\bsynchronized\\b", "\\bassert\\b", "->", "::",
            "\\bpackage\\b", "\\bimport\\b", "\\bprotected\\b", "\\bvar\\b", "\\bfloat\\b", "\\bdouble\\b",
            "\\bSystem\\b", "\\bThread\\b", "\\bRandom\\b", "\\bObject\\b", "\\bString\\b", "\"",
            "Exact\\b", "\\bwhile *\\( *true", "for *\\( *; *;", "static *\\{", "\\bnative\\b", "\\bvolatile\\b",
        };
        for (String word : forbidden) {
            Matcher matcher = Pattern.compile(word).matcher(code);
            Check.isTrue("LANGUAGE: no " + word + " in the class", !matcher.find());
        }
        Check.isTrue("LANGUAGE: plain characters alone", code.chars().allMatch(sign -> sign < 128));
    }

    private static void face() {
        Class<?> type = FrozenDistricts.class;
        Check.isTrue("LANGUAGE 1: public and final",
            Modifier.isPublic(type.getModifiers()) && Modifier.isFinal(type.getModifiers()));
        Set<String> methods = new TreeSet<>();
        for (Method method : type.getDeclaredMethods()) {
            if (Modifier.isPrivate(method.getModifiers())) {
                Check.isTrue("LANGUAGE 1: a private name " + method, !FACE.contains(method.getName()));
                continue;
            }
            Check.isTrue("LANGUAGE 1: public " + method, Modifier.isPublic(method.getModifiers()));
            Check.isTrue("LANGUAGE 1: once " + method, methods.add(method.getName()));
        }
        Check.isTrue("LANGUAGE 1: the methods of the face", methods.equals(new TreeSet<>(FACE)));
        Set<String> constants = new TreeSet<>();
        for (Field field : type.getDeclaredFields()) {
            if (Modifier.isStatic(field.getModifiers())) {
                Check.isTrue("LANGUAGE 5: final " + field, Modifier.isFinal(field.getModifiers()));
            }
            if (!Modifier.isPrivate(field.getModifiers())) {
                constants.add(field.getName());
            }
        }
        Check.isTrue("LANGUAGE 1: the constants of the face", constants.equals(new TreeSet<>(CONSTANTS)));
        Constructor<?>[] constructors = type.getDeclaredConstructors();
        Check.isTrue("LANGUAGE 1: one constructor", constructors.length == 1
            && Modifier.isPublic(constructors[0].getModifiers()) && constructors[0].getParameterCount() == 0);
    }

    private static void nested() {
        Class<?>[] nested = FrozenDistricts.class.getDeclaredClasses();
        Check.isTrue("LANGUAGE 11: few classes", nested.length <= 11);
        for (Class<?> type : nested) {
            Check.isTrue("LANGUAGE 2: static " + type, Modifier.isStatic(type.getModifiers()));
            Check.isTrue("LANGUAGE 1: not public " + type, !Modifier.isPublic(type.getModifiers()));
            for (Method method : type.getDeclaredMethods()) {
                Check.isTrue("LANGUAGE 11: parameters of " + method, method.getParameterCount() <= 7);
                Check.isTrue("LANGUAGE 1: the name of " + method, !FACE.contains(method.getName()));
                Check.isTrue("LANGUAGE 6: the name of " + method,
                    !Set.of("equals", "hashCode", "toString").contains(method.getName()));
            }
        }
    }

    /** Counts the lines from each head of a method or constructor to the brace that stands under it. */
    private static void lengths(String source) {
        Matcher matcher = Pattern.compile("(?ms)^( {4}| {8})(\\w[^\n;=]*\\)) \\{\n(.*?)^\\1\\}$").matcher(source);
        int methods = 0;
        while (matcher.find()) {
            long lines = matcher.group(3).lines().count();
            Check.isTrue("LANGUAGE 11: " + lines + " lines of " + matcher.group(2), lines <= 60);
            methods++;
        }
        Check.isTrue("LANGUAGE 11: the methods were found", methods > FACE.size());
    }

    private static void fields() {
        few(FrozenDistricts.class);
        for (Class<?> type : FrozenDistricts.class.getDeclaredClasses()) {
            few(type);
        }
    }

    private static void few(Class<?> type) {
        int fields = 0;
        for (Field field : type.getDeclaredFields()) {
            fields += Modifier.isStatic(field.getModifiers()) ? 0 : 1;
        }
        Check.isTrue("LANGUAGE 11: " + fields + " fields of " + type, fields <= 20);
    }
}
