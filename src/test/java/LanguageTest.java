import java.lang.reflect.Constructor;
import java.lang.reflect.Field;
import java.lang.reflect.Method;
import java.lang.reflect.Modifier;
import java.nio.file.Files;
import java.nio.file.Path;
import java.util.ArrayList;
import java.util.List;
import java.util.Set;
import java.util.TreeSet;
import java.util.regex.Matcher;
import java.util.regex.Pattern;

/** The rules of LANGUAGE.md that can be looked up: the face, forbidden words, the library, lengths. */
public final class LanguageTest {
    private static final Path MAIN = Path.of("src/main/java/PalmCensus.java");
    private static final Path DOC = Path.of("../shared/DOC.md");
    private static int wrong = 0;

    private static void check(boolean is, String what) {
        if (!is) {
            wrong++;
            System.out.println(what);
        }
    }

    public static void main(String[] args) throws Exception {
        String source = Files.readString(MAIN);
        String bare = source.replaceAll("(?s)/\\*.*?\\*/", "").replaceAll("//[^\n]*", "").replaceAll("\"[^\"\n]*\"", "\"\"");
        face(Files.readString(DOC));
        words(source, bare);
        lengths(source);
        System.out.println(wrong == 0 ? "the language is kept" : wrong + " rules of the language are not kept");
        if (wrong != 0) {
            System.exit(1);
        }
    }

    private static void face(String doc) {
        Class<?> c = PalmCensus.class;
        check(Modifier.isPublic(c.getModifiers()) && Modifier.isFinal(c.getModifiers()), "the class is public and final");
        Set<String> want = new TreeSet<>();
        Matcher m = Pattern.compile("public (int|boolean) (\\w+)\\(([^)]*)\\);").matcher(doc);
        while (m.find()) {
            StringBuilder types = new StringBuilder();
            for (String parameter : m.group(3).split(", *")) {
                types.append(parameter.split(" ")[0]).append(' ');
            }
            want.add(m.group(1) + " " + m.group(2) + "(" + types.toString().trim() + ")");
        }
        Set<String> got = new TreeSet<>();
        Set<String> names = new TreeSet<>();
        for (Method method : c.getDeclaredMethods()) {
            check(Modifier.isPublic(method.getModifiers()) || Modifier.isPrivate(method.getModifiers()), "rule 1: " + method);
            check(method.getParameterCount() <= 7, "rule 11: " + method);
            if (Modifier.isPublic(method.getModifiers())) {
                StringBuilder types = new StringBuilder();
                for (Class<?> type : method.getParameterTypes()) {
                    types.append(type.getName()).append(' ');
                }
                got.add(method.getReturnType() + " " + method.getName() + "(" + types.toString().trim() + ")");
                names.add(method.getName());
            }
        }
        check(want.size() == 38 && got.equals(want), "the face is " + got);
        for (Field field : c.getDeclaredFields()) {
            check(Modifier.isPrivate(field.getModifiers()) || field.getName().equals("NONE"), "rule 1: " + field);
        }
        for (Constructor<?> constructor : c.getDeclaredConstructors()) {
            check(Modifier.isPublic(constructor.getModifiers()) && constructor.getParameterCount() == 0, "rule 1: " + constructor);
        }
        check(c.getDeclaredClasses().length <= 12, "rule 11: " + c.getDeclaredClasses().length + " classes inside");
        for (Class<?> inside : c.getDeclaredClasses()) {
            check(Modifier.isStatic(inside.getModifiers()) && !Modifier.isPublic(inside.getModifiers()), "rule 2: " + inside);
            int fields = 0;
            for (Field field : inside.getDeclaredFields()) {
                fields += Modifier.isStatic(field.getModifiers()) ? 0 : 1;
                check(!Modifier.isStatic(field.getModifiers()) || Modifier.isFinal(field.getModifiers()), "rule 5: " + field);
            }
            check(fields <= 20, "rule 11: fields of " + inside);
            for (Method method : inside.getDeclaredMethods()) {
                check(!names.contains(method.getName()), "rule 1: a method inside bears a public one's name: " + method);
                check(method.getParameterCount() <= 7, "rule 11: " + method);
            }
        }
    }

    private static void words(String source, String bare) {
        String forbidden = "\\b(throw|throws|try|catch|finally|synchronized|assert|static\\s*\\{|instanceof\\s+String|"
            + "double|float|System\\.(?!arraycopy)\\w+|Thread|Random|hashCode|toString|protected|package|native|volatile|"
            + "transient|\\w+Exact)\\b|->|::|@|String\\[\\]|\\bMath\\.random|\\bInteger\\.[A-Z]";
        Matcher m = Pattern.compile(forbidden).matcher(bare);
        while (m.find()) {
            check(false, "rules 2 to 13: " + m.group());
        }
        Matcher imports = Pattern.compile("(?m)^import .*$").matcher(source);
        while (imports.find()) {
            check(imports.group().equals("import java.util.Arrays;"), "rule 4: " + imports.group());
        }
        Matcher library = Pattern.compile("\\b(Arrays|Integer|Long|Math|System)\\.(\\w+)").matcher(bare);
        Set<String> fine = Set.of("Arrays.copyOf", "Arrays.copyOfRange", "Arrays.fill", "Integer.bitCount", "Math.max", "Math.min",
            "Math.abs", "System.arraycopy");
        while (library.find()) {
            check(fine.contains(library.group()), "rule 4: " + library.group());
        }
        check(source.chars().allMatch(c -> c == '\n' || c >= 32 && c < 127), "rule 4: signs");
    }

    private static void lengths(String source) {
        List<String> lines = new ArrayList<>(source.lines().toList());
        int from = -1;
        for (int i = 0; i < lines.size(); i++) {
            String line = lines.get(i);
            check(line.length() <= 120, "line " + (i + 1) + " is long");
            boolean opens = line.matches("(    |        )(public |private )?(static )?[\\w\\[\\]]+ \\w+\\(.*\\) \\{");
            from = opens ? i : from;
            if (from >= 0 && line.matches("(    |        )\\}")) {
                check(i - from <= 60, "rule 11: the method in line " + (from + 1) + " is long");
                from = -1;
            }
        }
    }
}
