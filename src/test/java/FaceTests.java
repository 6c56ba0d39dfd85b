import java.io.IOException;
import java.lang.reflect.Field;
import java.lang.reflect.Method;
import java.lang.reflect.Modifier;
import java.nio.charset.StandardCharsets;
import java.nio.file.Files;
import java.nio.file.Path;
import java.util.Arrays;
import java.util.HashSet;
import java.util.List;
import java.util.Set;
import java.util.TreeSet;
import java.util.regex.Matcher;
import java.util.regex.Pattern;

/** The class has the document's face and nothing more, and its file keeps to the rules that can be seen from outside. */
public final class FaceTests {
    private static final String[] FACE = {
        "feed int int int int int int", "end boolean int", "fault int int", "text int int", "kind int int int",
        "person int int int", "law boolean int", "whim boolean int", "pass int", "habit int int int", "bed int int",
        "fog int int", "eclipse int", "candles int int", "give int int", "years int int long", "status int int",
        "undo int", "log int int int", "step int int int int", "run int int int", "perform int int",
        "light int int", "coming int int", "may int int", "governs int int", "round int int", "swings int int",
        "bedding int int", "coins int int", "seen int int int boolean", "habits int int int", "ask int int",
        "game int int int int int int", "rests int int int int", "odds int int int", "shares int int int",
        "did int int int", "all int int", "image int", "back int", "count int int"};
    private static final Path SOURCE = Path.of("src/main/java/DarkestDay.java");
    private static int passed = 0;
    private static int failed = 0;

    public static void main(String[] args) throws Exception {
        theFace();
        theClassesInside();
        theFile();
        System.out.println("FaceTests: " + passed + " passed, " + failed + " failed");
        System.exit(failed == 0 ? 0 : 1);
    }

    private static void check(boolean fine, String what) {
        if (fine) {
            passed++;
        } else {
            failed++;
            System.out.println("FaceTests: " + what);
        }
    }

    private static void theFace() throws NoSuchFieldException {
        Set<String> found = new TreeSet<>();
        Set<String> hidden = new HashSet<>();
        for (Method m : DarkestDay.class.getDeclaredMethods()) {
            StringBuilder told = new StringBuilder(m.getName()).append(' ').append(m.getReturnType());
            for (Class<?> c : m.getParameterTypes()) {
                told.append(' ').append(c);
            }
            if (Modifier.isPublic(m.getModifiers())) {
                found.add(told.toString());
                check(!Modifier.isStatic(m.getModifiers()), told + " is static");
            } else {
                check(Modifier.isPrivate(m.getModifiers()), told + " is neither public nor private");
                hidden.add(m.getName());
            }
        }
        check(found.equals(new TreeSet<>(Arrays.asList(FACE))), "the public methods are " + found);
        for (String told : FACE) {
            check(!hidden.contains(told.substring(0, told.indexOf(' '))), "a private method is called as " + told);
        }
        check(Modifier.isFinal(DarkestDay.class.getModifiers()), "the class is not final");
        check(DarkestDay.class.getConstructors().length == 1 && DarkestDay.class.getDeclaredConstructors().length == 1,
                "the constructors");
        check(DarkestDay.NONE == -1 && DarkestDay.HIDDEN == -1000000, "the constants");
        for (Field f : DarkestDay.class.getDeclaredFields()) {
            boolean told = f.getName().equals("NONE") || f.getName().equals("HIDDEN");
            check(Modifier.isPublic(f.getModifiers()) == told, "field " + f);
            check(told || Modifier.isPrivate(f.getModifiers()), "field " + f + " can be seen");
        }
    }

    private static void theClassesInside() {
        Class<?>[] inside = DarkestDay.class.getDeclaredClasses();
        check(inside.length <= 12, inside.length + " classes inside");
        for (Class<?> c : inside) {
            check(Modifier.isStatic(c.getModifiers()) && !Modifier.isPublic(c.getModifiers()), c + " is seen or not static");
            int fields = 0;
            for (Field f : c.getDeclaredFields()) {
                boolean isStatic = Modifier.isStatic(f.getModifiers());
                check(!isStatic || Modifier.isFinal(f.getModifiers()), f + " is static and not final");
                fields += isStatic ? 0 : 1;
            }
            check(fields <= 20, c + " has " + fields + " fields");
            for (Method m : c.getDeclaredMethods()) {
                check(m.getParameterCount() <= 7, m + " takes too much");
            }
        }
    }

    private static void theFile() throws IOException {
        List<String> lines = Files.readAllLines(SOURCE, StandardCharsets.US_ASCII);
        String source = String.join("\n", lines);
        String bare = source.replaceAll("(?s)/\\*.*?\\*/", "").replaceAll("//[^\n]*", "");
        for (String banned : new String[] {"->", "::", "synchronized", "assert ", "finally", "instanceof", "Exact(",
            "package ", "record ", "@", "\"", "hashCode", "toString", "catch"}) {
            check(!bare.contains(banned), "the file holds " + banned);
        }
        Matcher imports = Pattern.compile("import ([\\w.*]+);").matcher(bare);
        while (imports.find()) {
            check(imports.group(1).equals("java.util.NoSuchElementException"), "imports " + imports.group(1));
        }
        int start = -1;
        for (int i = 0; i < lines.size(); i++) {
            String line = lines.get(i);
            if (line.matches(" {4}( {4})?[\\w<].*\\) (throws \\w+ )?\\{")) {
                start = i;
            } else if (start >= 0 && line.matches(" {4}( {4})?\\}")) {
                check(i - start < 60, "a method of " + (i - start + 1) + " lines at " + (start + 1));
                start = -1;
            }
        }
        Matcher index = Pattern.compile("(?<!new )\\b(\\w+)\\[(\\w+)\\]").matcher(bare);
        Set<String> arrays = new TreeSet<>();
        while (index.find()) {
            arrays.add(index.group(1));
        }
        arrays.removeAll(List.of("laws", "calendars", "states", "signs", "table", "cells", "bytes", "CLAUSES", "int"));
        check(arrays.isEmpty(), "arrays are indexed outside of the guarded places: " + arrays);
    }
}
