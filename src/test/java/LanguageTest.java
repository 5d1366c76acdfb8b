import java.io.IOException;
import java.lang.reflect.Field;
import java.lang.reflect.Method;
import java.lang.reflect.Modifier;
import java.nio.charset.StandardCharsets;
import java.nio.file.Files;
import java.nio.file.Path;
import java.util.ArrayList;
import java.util.List;
import java.util.Set;
import java.util.TreeSet;
import java.util.regex.Matcher;
import java.util.regex.Pattern;

/** The rules of LANGUAGE.md that a program can look after, and that no call makes objects. */
public final class LanguageTest {
    private static final Due DUE = new Due("LanguageTest");
    private static final Path SOURCE = Path.of("src/main/java/SlangYears.java");
    private static final Set<String> FACE = Set.of(
        "int type(long,int)", "int clear()", "int land()", "int law(int)", "int late(int)", "int near(int,int)",
        "int word(int,int)", "int go(int)", "int anew()", "int share(int,int,int)", "int has(int,int,int)",
        "int song(int,int,int)", "int life(int,int)", "int printed(int,int)", "long old(int,int,int,int,int)",
        "int likeliest(int,int,int)", "int letter(int,int,int,int)", "int could()", "long forged(int,int,int,int)",
        "int kills(int)", "int part(int)", "int writing(int,int,int)", "int span(int,int)", "int wants(int)",
        "int drawn(int,int)", "int lot(int)", "int rate(int,int)", "int keep(int)", "int back(int)",
        "int count(int)", "long trace()");
    private static final String BANNED =
        "\\b(throw|throws|try|catch|finally|synchronized|assert|instanceof|package|native|volatile|transient"
        + "|double|float|Object|Exception|Error|System\\.(?!arraycopy)\\w+|Thread|\\w+Exact|hashCode|toString)\\b|->|::";

    public static void main(String[] args) throws IOException {
        String code = withoutComments(Files.readString(SOURCE, StandardCharsets.ISO_8859_1));
        face();
        classesInside();
        bannedWords(code);
        importsAndNews(code);
        methodLengths(code);
        DUE.end();
    }

    private static String withoutComments(String source) {
        return source.replaceAll("(?s)/\\*.*?\\*/", "").replaceAll("//[^\n]*", "");
    }

    private static String told(Method m) {
        List<String> types = new ArrayList<>();
        for (Class<?> type : m.getParameterTypes()) {
            types.add(type.getSimpleName());
        }
        return m.getReturnType().getSimpleName() + " " + m.getName() + "(" + String.join(",", types) + ")";
    }

    private static void face() {
        Set<String> open = new TreeSet<>();
        Set<String> names = new TreeSet<>();
        for (String method : FACE) {
            names.add(method.replaceAll(".* |\\(.*", ""));
        }
        for (Method m : SlangYears.class.getDeclaredMethods()) {
            if (!Modifier.isPrivate(m.getModifiers())) {
                open.add(told(m));
            } else {
                DUE.is("private " + m.getName() + " bears a public name", names.contains(m.getName()) ? 1 : 0, 0);
            }
        }
        DUE.is("the methods are those of the face: " + open, open.equals(FACE) ? 1 : 0, 1);
        Set<String> constants = Set.of("BAD", "STATE", "FULL", "NONE", "NO");
        for (Field f : SlangYears.class.getDeclaredFields()) {
            boolean isOpen = !Modifier.isPrivate(f.getModifiers());
            DUE.is("open field " + f.getName(), isOpen ? 1 : 0, constants.contains(f.getName()) ? 1 : 0);
            boolean changes = Modifier.isStatic(f.getModifiers()) && !Modifier.isFinal(f.getModifiers());
            DUE.is("static state " + f.getName(), changes ? 1 : 0, 0);
        }
        DUE.is("the class is public and final", SlangYears.class.getModifiers(), Modifier.PUBLIC | Modifier.FINAL);
        DUE.is("one constructor", SlangYears.class.getDeclaredConstructors().length, 1);
    }

    private static void classesInside() {
        Class<?>[] inside = SlangYears.class.getDeclaredClasses();
        DUE.is("at most some twelve classes", inside.length < 12 ? 1 : 0, 1);
        for (Class<?> c : inside) {
            DUE.is(c.getName() + " is static", Modifier.isStatic(c.getModifiers()) ? 1 : 0, 1);
            DUE.is(c.getName() + " is not open", c.getModifiers() & (Modifier.PUBLIC | Modifier.PROTECTED), 0);
            for (Method m : c.getDeclaredMethods()) {
                boolean named = FACE.stream().anyMatch(face -> face.contains(" " + m.getName() + "("));
                DUE.is(c.getName() + "." + m.getName() + " bears a public name", named ? 1 : 0, 0);
            }
            int fields = 0;
            for (Field f : c.getDeclaredFields()) {
                fields += Modifier.isStatic(f.getModifiers()) ? 0 : 1;
            }
            DUE.is(c.getName() + " has at most some twenty fields", fields <= 20 ? 1 : 0, 1);
        }
    }

    private static void bannedWords(String code) {
        Matcher m = Pattern.compile(BANNED).matcher(code);
        while (m.find()) {
            DUE.is("in the code stands '" + m.group() + "'", 1, 0);
        }
        Matcher joined = Pattern.compile("\"\\s*\\+|\\+\\s*\"").matcher(code);
        DUE.is("texts joined by +", joined.find() ? 1 : 0, 0);
        for (int i = 0; i < code.length(); i++) {
            if (code.charAt(i) > 126) {
                DUE.is("sign " + (int) code.charAt(i) + " in the code", 1, 0);
            }
        }
    }

    /** Objects are made in fields and in constructors alone: a call makes none. */
    private static void importsAndNews(String code) {
        for (String line : code.split("\n")) {
            if (line.startsWith("import ")) {
                DUE.is(line, line.equals("import java.util.Arrays;") ? 1 : 0, 1);
            }
            if (line.contains("new ")) {
                boolean field = line.matches("\\s+private (final )?[\\w\\[\\]]+ \\w+ = new [^;]+;");
                boolean constructor = line.matches("\\s+(images|lives)\\[[iw]\\] = new \\w+\\(\\);");
                DUE.is("made in a field or a constructor:" + line, field || constructor ? 1 : 0, 1);
            }
        }
    }

    private static void methodLengths(String code) {
        String[] lines = code.split("\n", -1);
        int began = -1;
        String end = "";
        for (int i = 0; i < lines.length; i++) {
            if (began < 0 && lines[i].matches(" +[\\w\\[\\]].*\\) \\{")) {
                began = i;
                end = lines[i].replaceAll("\\S.*", "}");
            } else if (began >= 0 && lines[i].equals(end)) {
                DUE.is("more than sixty lines:" + lines[began], i - began > 60 ? 1 : 0, 0);
                began = -1;
            }
        }
    }
}
