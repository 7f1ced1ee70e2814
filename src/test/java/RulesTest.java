import java.io.IOException;
import java.lang.reflect.Constructor;
import java.lang.reflect.Method;
import java.lang.reflect.Modifier;
import java.nio.file.Files;
import java.nio.file.Path;
import java.util.ArrayList;
import java.util.Arrays;
import java.util.List;
import java.util.Set;
import java.util.TreeSet;
import java.util.regex.Matcher;
import java.util.regex.Pattern;
import java.util.stream.Collectors;
import java.util.stream.Stream;

/** The public face as the document shows it, and what of the rules of LANGUAGE.md can be seen in the file. */
public final class RulesTest {
    private static final Path DOCUMENT = Path.of("../shared/DOC.md");
    private static final Path PROGRAM = Path.of("src/main/java/Shrinkery.java");

    private static int wrong;

    public static void main(String[] args) throws IOException, ClassNotFoundException {
        checkFace();
        String source = Files.readString(PROGRAM);
        check(source.chars().allMatch(c -> c < 128), "a sign that is not ASCII");
        String code = withoutTexts(source);
        checkWords(code);
        checkClasses(code);
        checkMethods(code);
        System.out.println(wrong == 0 ? "the rules are kept" : wrong + " rules are not kept");
        if (wrong != 0) {
            System.exit(1);
        }
    }

    private static void check(boolean isKept, String otherwise) {
        if (!isKept) {
            wrong++;
            System.out.println(otherwise);
        }
    }

    private static void checkFace() throws IOException {
        String document = Files.readString(DOCUMENT);
        String block = document.substring(document.indexOf("```java"), document.indexOf("```\n\n## Terms"));
        Set<String> due = new TreeSet<>();
        Matcher line = Pattern.compile("    public (.*);").matcher(block);
        while (line.find()) {
            String[] parts = line.group(1).split("(?=\\) throws)|(?=\\)$)");
            due.add(parts[0].replaceAll(" \\w+(,|$)", "$1") + parts[1]);
        }
        Set<String> got = new TreeSet<>();
        for (Method m : Shrinkery.class.getDeclaredMethods()) {
            if (!Modifier.isPrivate(m.getModifiers())) {
                got.add(signature(m.getReturnType().getSimpleName() + " " + m.getName(), m.getParameterTypes(),
                        m.getExceptionTypes()));
            }
        }
        for (Constructor<?> c : Shrinkery.class.getDeclaredConstructors()) {
            got.add(signature("Shrinkery", c.getParameterTypes(), c.getExceptionTypes()));
        }
        check(due.size() == 65, "the document shows " + due.size() + " signatures");
        check(due.equals(got), "the face is not that of the document: due " + minus(due, got) + ", got " + minus(got, due));
        check(Arrays.stream(Shrinkery.class.getDeclaredFields()).allMatch(f -> Modifier.isPrivate(f.getModifiers())),
                "a field that is not private");
        check(Modifier.isFinal(Shrinkery.class.getModifiers()), "the class is not final");
    }

    private static String minus(Set<String> one, Set<String> other) {
        return one.stream().filter(s -> !other.contains(s)).collect(Collectors.joining("; "));
    }

    private static String signature(String name, Class<?>[] parameters, Class<?>[] exceptions) {
        String all = name + "(" + names(parameters) + ")";
        return exceptions.length == 0 ? all : all + " throws " + names(exceptions);
    }

    private static String names(Class<?>[] types) {
        return Stream.of(types).map(Class::getSimpleName).collect(Collectors.joining(", "));
    }

    private static String withoutTexts(String source) {
        return source.replaceAll("/\\*(?s:.)*?\\*/", "").replaceAll("//.*", "").replaceAll("\"[^\"\n]*\"", "\"\"")
                .replaceAll("'[^']'", "'c'");
    }

    private static void checkWords(String code) {
        String[] forbidden = {"->", "::", "\\bfinally\\b", "\\bsynchronized\\b", "\\bassert\\b", "\\bprotected\\b",
            "\\bextends\\b", "\\btry\\b", "\\bcatch\\b", "System\\.", "Thread", "Random", "\\bvar\\b", "hashCode",
            "toString", "\\bequals\\b", "Exact\\b", "\"\" \\+", "\\+ \"\"", "\\bstatic \\{", "^package "};
        for (String word : forbidden) {
            check(!Pattern.compile(word, Pattern.MULTILINE).matcher(code).find(), "the file has " + word);
        }
        Matcher library = Pattern.compile("\\b(Math|Integer|Long)\\.(\\w+)").matcher(code);
        Set<String> known = Set.of("Math.min", "Math.max", "Math.floorMod", "Integer.bitCount");
        while (library.find()) {
            check(known.contains(library.group()), "the library's " + library.group());
        }
        Matcher imports = Pattern.compile("import (\\S+);").matcher(code);
        while (imports.find()) {
            check(imports.group(1).equals("java.util.NoSuchElementException"), "imports " + imports.group(1));
        }
        Matcher thrown = Pattern.compile("\\bthrow ([^;]*);").matcher(code);
        Pattern form = Pattern.compile("new (IllegalState|IllegalArgument|IndexOutOfBounds|Arithmetic"
                + "|UnsupportedOperation|NoSuchElement)Exception\\(\"\"\\)");
        while (thrown.find()) {
            check(form.matcher(thrown.group(1)).matches(), "throws " + thrown.group(1));
        }
    }

    private static void checkClasses(String code) throws ClassNotFoundException {
        List<Class<?>> classes = new ArrayList<>(List.of(Shrinkery.class.getDeclaredClasses()));
        check(classes.size() <= 11, "there are " + (classes.size() + 1) + " classes");
        Set<String> face = Stream.of(Shrinkery.class.getDeclaredMethods()).filter(m -> Modifier.isPublic(m.getModifiers()))
                .map(Method::getName).collect(Collectors.toSet());
        classes.add(Shrinkery.class);
        for (Class<?> c : classes) {
            check(c == Shrinkery.class || Modifier.isPrivate(c.getModifiers()) && Modifier.isStatic(c.getModifiers()),
                    c + " is not private and static");
            long fields = Stream.of(c.getDeclaredFields()).filter(f -> !Modifier.isStatic(f.getModifiers())).count();
            check(fields <= 20, c + " has " + fields + " fields");
            check(Stream.of(c.getDeclaredFields()).filter(f -> Modifier.isStatic(f.getModifiers()))
                    .allMatch(f -> Modifier.isFinal(f.getModifiers()) && f.getType().isPrimitive()),
                    c + " has a static field that is no constant");
            for (Method m : c.getDeclaredMethods()) {
                check(m.getParameterCount() <= 7, m + " takes too many parameters");
                check(Modifier.isPublic(m.getModifiers()) || !face.contains(m.getName()), m + " has a name of the face");
            }
        }
    }

    private static void checkMethods(String code) {
        String[] lines = code.split("\n");
        int start = 0;
        for (int i = 0; i < lines.length; i++) {
            if (lines[i].matches("(    |        )(public|private).*\\(.*") && !lines[i].endsWith(";")) {
                start = i;
            }
            if (lines[i].matches("    }|        }")) {
                check(i - start < 60, "a method of " + (i - start + 1) + " lines: " + lines[start].trim());
                start = i;
            }
            check(lines[i].length() <= 120, "a line of " + lines[i].length() + " signs");
        }
    }
}
