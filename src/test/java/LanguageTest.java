import java.io.IOException;
import java.lang.reflect.Field;
import java.lang.reflect.Method;
import java.lang.reflect.Modifier;
import java.nio.file.Files;
import java.nio.file.Path;
import java.util.ArrayList;
import java.util.Arrays;
import java.util.List;
import java.util.Set;
import java.util.regex.Matcher;
import java.util.regex.Pattern;
import java.util.stream.Collectors;

/** What of LANGUAGE.md can be seen from the source's text and by reflection; it runs in the project's directory. */
public final class LanguageTest {
    private static final Path SOURCE = Path.of("src/main/java/FareClock.java");
    private static final String[] REFUSED = {
        "->", "::", "\\bcatch\\b", "\\btry\\b", "\\bfinally\\b", "\\bsynchronized\\b", "\\bassert\\b", "static \\{", "\\bprotected\\b", "Exact\\(",
        "\\bequals\\(", "\\bhashCode\\b", "\\btoString\\b", "\\bSystem\\.(?!arraycopy)", "\\bpackage\\b", "\\bwhile \\(true\\)",
            "for \\(;;\\)", "\\bvar\\b",
        "\\bThread\\b", "\\bObject\\b", "\\bMath\\.(?!min|max)"
    };
    private static final Set<String> LIBRARY = Set.of("java.util.Arrays", "java.util.NoSuchElementException");

    public static void main(String[] args) throws IOException {
        String text = Files.readString(SOURCE);
        String code = text.replaceAll("(?s)/\\*.*?\\*/", "").replaceAll("//[^\n]*", "");
        for (String refused : REFUSED) {
            Matcher found = Pattern.compile(refused).matcher(code);
            if (found.find()) {
                Bench.fail("refused", found.group());
            }
        }
        Matcher imports = Pattern.compile("import ([^;]+);").matcher(code);
        while (imports.find()) {
            demand(LIBRARY.contains(imports.group(1)), "rule 4: " + imports.group(1));
        }
        shortMethods(code);
        classes();
        Bench.close();
    }

    private static void shortMethods(String code) {
        int began = -1;
        String[] lines = code.split("\n");
        for (int i = 0; i < lines.length; i++) {
            if (lines[i].matches("( {4}| {8})[\\w@].*\\{") && !lines[i].matches(".*\\b(class|new int)\\b.*")) {
                began = i;
            }
            if (lines[i].matches("( {4}| {8})\\}") && began >= 0) {
                demand(i - began < 60, "rule 11: a method of " + (i - began + 1) + " lines: " + lines[began].trim());
                began = -1;
            }
        }
    }

    private static void classes() {
        List<Class<?>> all = new ArrayList<>(List.of(FareClock.class.getDeclaredClasses()));
        for (Class<?> inside : all) {
            demand(Modifier.isPrivate(inside.getModifiers()) && Modifier.isStatic(inside.getModifiers()), "rule 1: " + inside);
        }
        all.add(FareClock.class);
        demand(all.size() <= 12, "rule 11: " + all.size() + " classes");
        Set<String> face = Arrays.stream(FareClock.class.getMethods()).map(Method::getName).collect(Collectors.toSet());
        for (Class<?> one : all) {
            fields(one);
            for (Method method : one.getDeclaredMethods()) {
                boolean isFace = one == FareClock.class && Modifier.isPublic(method.getModifiers());
                demand(isFace || !face.contains(method.getName()), "rule 1: " + method);
                demand(method.getParameterCount() <= 7, "rule 11: " + method);
            }
        }
    }

    private static void fields(Class<?> one) {
        int count = 0;
        for (Field field : one.getDeclaredFields()) {
            boolean isStatic = Modifier.isStatic(field.getModifiers());
            count += isStatic ? 0 : 1;
            demand(!isStatic || Modifier.isFinal(field.getModifiers()), "rule 5: " + field);
        }
        demand(count <= 20, "rule 11: " + count + " fields in " + one);
    }

    private static void demand(boolean holds, String what) {
        if (!holds) {
            Bench.fail("language", what);
        }
    }
}
