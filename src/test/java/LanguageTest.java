import java.io.IOException;
import java.lang.reflect.Constructor;
import java.lang.reflect.Field;
import java.lang.reflect.Member;
import java.lang.reflect.Method;
import java.lang.reflect.Modifier;
import java.nio.file.Files;
import java.nio.file.Path;
import java.util.ArrayList;
import java.util.List;
import java.util.TreeSet;
import java.util.regex.Matcher;
import java.util.regex.Pattern;

/** Rules of LANGUAGE.md that can be seen from the source's words and from the class itself. */
public final class LanguageTest {
    private static final Path SOURCE = Path.of("src/main/java/Markethall.java");
    private static final Path DOCUMENT = Path.of("../shared/DOC.md");

    public static void main(String[] args) throws IOException {
        String code = withoutComments(Files.readString(SOURCE));
        words(code);
        imports(code);
        lengths(code);
        face();
        nested();
        Check.end();
    }

    private static String withoutComments(String text) {
        return text.replaceAll("(?s)/\\*.*?\\*/", "").replaceAll("//[^\n]*", "");
    }

    private static void words(String code) {
        String[] forbidden = {"->", "::", "\\bfinally\\b", "\\bsynchronized\\b", "\\bassert\\b", "\\btry\\b",
            "\\bcatch\\b", "\\bpackage\\b", "\\binstanceof\\b", "\\bhashCode\\b", "\\btoString\\b", "\\bequals\\b",
            "Exact\\b", "\\bSystem\\.", "\\bThread\\b", "\\bRandom\\b", "\\bclone\\b", "\\bvar\\b", "\\bnative\\b",
            "\\bvolatile\\b", "\\btransient\\b", "\\bprotected\\b", "static\\s*\\{", "\\bMath\\.(sqrt|pow|floor|ceil|round|random)\\b"};
        for (String each : forbidden) {
            Check.due("source has " + each, Pattern.compile(each).matcher(code).find(), false);
        }
        Check.due("a sign above 127", code.chars().anyMatch(c -> c > 127), false);
    }

    private static void imports(String code) {
        Matcher m = Pattern.compile("import ([^;]*);").matcher(code);
        while (m.find()) {
            Check.due("import " + m.group(1), m.group(1).equals("java.util.NoSuchElementException"), true);
        }
    }

    private static void lengths(String code) {
        int length = 0;
        for (String line : code.split("\n")) {
            boolean isEnd = line.matches("( {4}| {8})\\}");
            length = isEnd || line.isBlank() ? 0 : length + 1;
            Check.due("a method is too long at " + line, length > 60, false);
            Check.due("a line is too long: " + line, line.length() > 120, false);
        }
    }

    // The document's lines and the class's own signatures, in plain words.
    private static void face() throws IOException {
        TreeSet<String> due = new TreeSet<>();
        for (String line : Files.readString(DOCUMENT).split("\n")) {
            Matcher m = Pattern.compile("    public (?!Markethall)(\\w+) (\\w+)\\(([^)]*)\\)(?: throws ([^;]*))?;").matcher(line);
            if (m.matches()) {
                StringBuilder types = new StringBuilder();
                for (String part : m.group(3).split(", ")) {
                    types.append(part.split(" ")[0]).append(' ');
                }
                String exceptions = m.group(4) == null ? "" : m.group(4).replace(",", "");
                due.add(m.group(1) + " " + m.group(2) + " " + types.toString().trim() + " throws " + exceptions);
            }
        }
        Check.due("methods in the document", due.size(), 46);
        TreeSet<String> got = new TreeSet<>();
        TreeSet<String> hidden = new TreeSet<>();
        for (Method each : Markethall.class.getDeclaredMethods()) {
            boolean isFace = Modifier.isPublic(each.getModifiers());
            Check.due("open member " + each, isFace || Modifier.isPrivate(each.getModifiers()), true);
            if (isFace) {
                got.add(each.getReturnType() + " " + each.getName() + " " + names(each.getParameterTypes())
                        + " throws " + names(each.getExceptionTypes()));
            } else {
                hidden.add(each.getName());
            }
        }
        Check.due("the face", got.toString(), due.toString());
        for (Class<?> inside : Markethall.class.getDeclaredClasses()) {
            for (Method each : inside.getDeclaredMethods()) {
                hidden.add(each.getName());
            }
        }
        for (String each : due) {
            Check.due("hidden name " + each, hidden.contains(each.split(" ")[1]), false);
        }
        Constructor<?>[] constructors = Markethall.class.getDeclaredConstructors();
        Check.due("constructors", constructors.length, 1);
        Check.due("public constructor", Modifier.isPublic(constructors[0].getModifiers()), true);
        Check.due("final", Modifier.isFinal(Markethall.class.getModifiers()), true);
        for (Field each : Markethall.class.getDeclaredFields()) {
            Check.due("open field " + each, Modifier.isPrivate(each.getModifiers()), true);
        }
    }

    private static String names(Class<?>[] types) {
        StringBuilder names = new StringBuilder();
        for (Class<?> each : types) {
            names.append(each.getSimpleName()).append(' ');
        }
        return names.toString().trim();
    }

    private static void nested() {
        List<Class<?>> all = new ArrayList<>(List.of(Markethall.class.getDeclaredClasses()));
        all.add(Markethall.class);
        Check.due("classes above 12", all.size() > 12, false);
        for (Class<?> type : all) {
            Check.due("static or outer " + type, type == Markethall.class || Modifier.isStatic(type.getModifiers()), true);
            int fields = 0;
            for (Field field : type.getDeclaredFields()) {
                boolean isStatic = Modifier.isStatic(field.getModifiers());
                Check.due("changing static " + field, isStatic && !Modifier.isFinal(field.getModifiers()), false);
                fields += isStatic ? 0 : 1;
            }
            Check.due("fields above 20 in " + type, fields > 20, false);
            List<Member> members = new ArrayList<>(List.of(type.getDeclaredMethods()));
            for (Member each : members) {
                int parameters = ((Method) each).getParameterCount();
                Check.due("parameters above 7 of " + each, parameters > 7, false);
            }
        }
    }
}
