import java.lang.reflect.Constructor;
import java.lang.reflect.Field;
import java.lang.reflect.Method;
import java.lang.reflect.Modifier;
import java.nio.charset.StandardCharsets;
import java.nio.file.Files;
import java.nio.file.Path;
import java.util.ArrayList;
import java.util.List;
import java.util.TreeSet;
import java.util.regex.Matcher;
import java.util.regex.Pattern;

/** The face of the document, and those rules of ../shared/LANGUAGE.md that can be seen without understanding. */
public final class RulesTest {
    static int wrong = 0;

    static void check(boolean isRight, String text) {
        if (!isRight) {
            wrong++;
            System.out.println(text);
        }
    }

    public static void main(String[] args) throws Exception {
        String raw = Files.readString(Path.of("src/main/java/Wagnerhall.java"), StandardCharsets.UTF_8);
        String code = withoutCommentsAndTexts(raw);
        face();
        members();
        words(raw, code);
        sizes(code);
        System.out.println(wrong == 0 ? "the rules are kept" : wrong + " wrong");
        System.exit(wrong == 0 ? 0 : 1);
    }

    static String withoutCommentsAndTexts(String raw) {
        String code = Pattern.compile("/\\*.*?\\*/", Pattern.DOTALL).matcher(raw).replaceAll(m -> m.group().replaceAll("[^\n]", " "));
        code = code.replaceAll("//[^\n]*", "");
        code = code.replaceAll("\"[^\"\n]*\"", "\"\"");
        return code.replaceAll("'(\\\\.|[^'\n])'", "' '");
    }

    /** The face as the document writes it: return type, name, parameter types, exceptions. */
    static TreeSet<String> due() throws Exception {
        TreeSet<String> due = new TreeSet<>();
        String doc = Files.readString(Path.of("../shared/DOC.md"), StandardCharsets.UTF_8);
        Matcher m = Pattern.compile("^    public (\\w+) (\\w+)\\(([^)]*)\\)( throws ([\\w, ]+))?;$", Pattern.MULTILINE).matcher(doc);
        while (m.find()) {
            StringBuilder types = new StringBuilder();
            for (String p : m.group(3).split(",")) {
                if (!p.isBlank()) types.append(p.trim().split(" ")[0]).append(' ');
            }
            String thrown = m.group(5) == null ? "" : m.group(5).replace(" ", "");
            due.add(m.group(1) + " " + m.group(2) + " ( " + types + ") " + thrown);
        }
        return due;
    }

    static void face() throws Exception {
        TreeSet<String> due = due();
        check(due.size() == 44, "the document's face has " + due.size() + " methods");
        TreeSet<String> got = new TreeSet<>();
        for (Method method : Wagnerhall.class.getDeclaredMethods()) {
            if (Modifier.isPrivate(method.getModifiers())) continue;
            check(Modifier.isPublic(method.getModifiers()) && !Modifier.isStatic(method.getModifiers()), "rule 1: " + method);
            StringBuilder types = new StringBuilder();
            for (Class<?> c : method.getParameterTypes()) types.append(c.getSimpleName()).append(' ');
            List<String> thrown = new ArrayList<>();
            for (Class<?> c : method.getExceptionTypes()) thrown.add(c.getSimpleName());
            got.add(method.getReturnType().getSimpleName() + " " + method.getName() + " ( " + types + ") " + String.join(",", thrown));
        }
        check(got.equals(due), "the face is\n" + got + "\nand should be\n" + due);
        check(Modifier.isFinal(Wagnerhall.class.getModifiers()) && Modifier.isPublic(Wagnerhall.class.getModifiers()), "rule 1: public and final");
        Constructor<?>[] made = Wagnerhall.class.getDeclaredConstructors();
        check(made.length == 1 && Modifier.isPublic(made[0].getModifiers()) && made[0].getParameterCount() == 0, "rule 1: one constructor");
    }

    static void members() {
        TreeSet<String> open = new TreeSet<>();
        for (Method m : Wagnerhall.class.getDeclaredMethods()) {
            if (Modifier.isPublic(m.getModifiers())) open.add(m.getName());
        }
        for (Field f : Wagnerhall.class.getDeclaredFields()) {
            check(Modifier.isPrivate(f.getModifiers()), "rule 1: " + f);
        }
        Class<?>[] inside = Wagnerhall.class.getDeclaredClasses();
        check(inside.length <= 12, "rule 11: " + inside.length + " classes");
        List<Class<?>> all = new ArrayList<>(List.of(inside));
        all.add(Wagnerhall.class);
        for (Class<?> c : all) {
            check(c == Wagnerhall.class || Modifier.isStatic(c.getModifiers()) && !Modifier.isPublic(c.getModifiers()), "rule 1: " + c);
            int fields = 0;
            for (Field f : c.getDeclaredFields()) {
                boolean isFixed = Modifier.isStatic(f.getModifiers());
                check(!isFixed || Modifier.isFinal(f.getModifiers()), "rule 5: " + f);
                fields += isFixed ? 0 : 1;
            }
            check(fields <= 20, "rule 11: " + fields + " fields in " + c);
            for (Method m : c.getDeclaredMethods()) {
                boolean isFace = c == Wagnerhall.class && Modifier.isPublic(m.getModifiers());
                check(isFace || !open.contains(m.getName()), "rule 1: " + m);
                check(m.getParameterCount() <= 7, "rule 11: " + m);
            }
        }
    }

    static void words(String raw, String code) {
        for (char c : raw.toCharArray()) check(c == '\n' || c >= ' ' && c < 127, "rule 3: the sign " + (int) c);
        String[] never = {"->", "::", "@", "\\btry\\b", "\\bcatch\\b", "\\bfinally\\b", "\\bsynchronized\\b", "\\bassert\\b",
            "\\brecord\\b", "\\bvolatile\\b", "\\bObject\\b", "\\bSystem\\b", "\\bRandom\\b", "\\bThread\\b", "\\bvar\\b", "\\bpackage\\b",
            "\\w+Exact\\b", "Math\\.(sqrt|pow|floor|ceil|round|random)\\b", "\\bequals\\b", "\\bhashCode\\b", "\\btoString\\b",
            "\"\" *\\+", "\\+ *\"\"", "static *\\{", "\\bwhile *\\( *true", "for *\\( *;", "\\bgoto\\b", "\\[\\]\\[\\]"};
        for (String n : never) {
            Matcher m = Pattern.compile(n).matcher(code);
            while (m.find()) check(false, "never: " + n + " in " + line(code, m.start()));
        }
        Matcher imports = Pattern.compile("^import (.*);$", Pattern.MULTILINE).matcher(code);
        while (imports.find()) {
            check(imports.group(1).equals("java.util.Arrays") || imports.group(1).equals("java.util.NoSuchElementException"), "rule 4: " + imports.group());
        }
        Matcher library = Pattern.compile("\\b(Arrays|Math|Integer|Long)\\.(\\w+)").matcher(code);
        while (library.find()) {
            check("fill min max bitCount numberOfLeadingZeros".contains(library.group(2)), "rule 4: " + library.group());
        }
        Matcher thrown = Pattern.compile("\\bthrow\\b[^;]*;").matcher(code);
        while (thrown.find()) {
            check(thrown.group().matches("throw new (IllegalStateException|IllegalArgumentException|IndexOutOfBoundsException"
                + "|ArithmeticException|UnsupportedOperationException|NoSuchElementException)\\(\"\"\\);"), "rule 6: " + thrown.group());
        }
    }

    static String line(String code, int at) {
        int from = code.lastIndexOf('\n', at) + 1;
        int to = code.indexOf('\n', at);
        return code.substring(from, to < 0 ? code.length() : to);
    }

    static void sizes(String code) {
        String[] lines = code.split("\n", -1);
        Pattern head = Pattern.compile("^( {4}| {8})(?=\\S)[\\w\\[\\] ]+ \\w+\\([^;=]*(\\{|,)?$");
        for (int i = 0; i < lines.length; i++) {
            Matcher m = head.matcher(lines[i]);
            if (!m.find() || lines[i].contains(" class ")) continue;
            String end = m.group(1) + "}";
            int k = i;
            while (k < lines.length && !lines[k].equals(end)) k++;
            check(k - i <= 60, "rule 11: " + (k - i) + " lines from " + lines[i].trim());
        }
    }
}
