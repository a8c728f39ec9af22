import java.io.IOException;
import java.lang.reflect.Field;
import java.lang.reflect.Method;
import java.lang.reflect.Modifier;
import java.nio.file.Files;
import java.nio.file.Path;
import java.util.ArrayList;
import java.util.HashSet;
import java.util.List;
import java.util.Set;
import java.util.TreeSet;
import java.util.regex.Matcher;
import java.util.regex.Pattern;

/** What a test can see of LANGUAGE.md's rules, and whether the face is that of the document. */
public final class LanguageTests {
    private static int wrong = 0;

    private static void bad(String what) {
        wrong++;
        System.out.println(what);
    }

    public static void main(String[] args) throws IOException {
        Path source = Path.of(args.length > 0 ? args[0] : "src/main/java/NameRolls.java");
        String code = withoutComments(Files.readString(source));
        face();
        members();
        words(code);
        lengths(code);
        recursion(code);
        System.out.println(wrong == 0 ? "the rules are kept" : wrong + " faults of the language");
        if (wrong != 0) {
            System.exit(1);
        }
    }

    private static String withoutComments(String code) {
        String bare = code.replaceAll("(?s)/\\*.*?\\*/", "").replaceAll("//[^\n]*", "");
        return bare.replaceAll("\"[^\"\n]*\"", "\"\"").replaceAll("'(\\\\.|[^'\n])'", "0");
    }

    /** The face as the document writes it: names and numbers of parameters. */
    private static void face() throws IOException {
        Set<String> want = new TreeSet<>();
        Path doc = Path.of("../shared/DOC.md");
        for (String line : Files.readAllLines(doc)) {
            Matcher m = Pattern.compile("    public int (\\w+)\\((.*)\\);").matcher(line);
            if (m.matches()) {
                want.add(m.group(1) + " " + (m.group(2).isEmpty() ? 0 : m.group(2).split(",").length));
            }
        }
        Set<String> have = new TreeSet<>();
        for (Method m : NameRolls.class.getDeclaredMethods()) {
            if (Modifier.isPublic(m.getModifiers()) && m.getReturnType() == int.class) {
                have.add(m.getName() + " " + m.getParameterCount());
            } else if (!Modifier.isPrivate(m.getModifiers())) {
                bad("not of the face: " + m);
            }
        }
        if (want.size() != 56 || !have.equals(want)) {
            bad("the face is " + have + ", the document's " + want);
        }
        Set<String> constants = new HashSet<>();
        for (Field f : NameRolls.class.getDeclaredFields()) {
            if (Modifier.isPublic(f.getModifiers())) {
                constants.add(f.getName());
            } else if (!Modifier.isPrivate(f.getModifiers())) {
                bad("not of the face: " + f);
            }
        }
        if (!constants.equals(Set.of("NONE", "FULL", "STATE", "NOT", "CAST", "NO_VALUE"))) {
            bad("the constants are " + constants);
        }
    }

    private static void members() {
        List<Class<?>> classes = new ArrayList<>(List.of(NameRolls.class.getDeclaredClasses()));
        Set<String> faceNames = new HashSet<>();
        for (Method m : NameRolls.class.getDeclaredMethods()) {
            if (Modifier.isPublic(m.getModifiers())) {
                faceNames.add(m.getName());
            }
        }
        for (Class<?> c : classes) {
            if (!Modifier.isStatic(c.getModifiers()) || Modifier.isPublic(c.getModifiers())) {
                bad(c + " is not static, or public");
            }
            for (Method m : c.getDeclaredMethods()) {
                if (faceNames.contains(m.getName())) {
                    bad(c + " has a method with a public one's name: " + m);
                }
            }
        }
        classes.add(NameRolls.class);
        if (classes.size() > 12) {
            bad("there are " + classes.size() + " classes");
        }
        for (Class<?> c : classes) {
            int fields = 0;
            for (Field f : c.getDeclaredFields()) {
                boolean isStatic = Modifier.isStatic(f.getModifiers());
                fields += isStatic ? 0 : 1;
                if (isStatic && !Modifier.isFinal(f.getModifiers())) {
                    bad("static and not final: " + f);
                }
            }
            if (fields > 20) {
                bad(c + " has " + fields + " fields");
            }
            for (Method m : c.getDeclaredMethods()) {
                if (m.getParameterCount() > 7) {
                    bad("too many parameters: " + m);
                }
            }
        }
    }

    private static void words(String code) {
        for (String word : List.of("throw", "throws", "try", "catch", "synchronized", "assert", "import", "package",
            "protected", "Object", "System.out", "equals", "hashCode", "toString", "Exact", "transient", "volatile")) {
            if (Pattern.compile("\\b" + Pattern.quote(word) + "\\b").matcher(code).find()) {
                bad("the word " + word);
            }
        }
        for (String sign : List.of("->", "::", "@", "\"\"\"")) {
            if (code.contains(sign)) {
                bad("the sign " + sign);
            }
        }
        for (int i = 0; i < code.length(); i++) {
            if (code.charAt(i) > 126) {
                bad("a sign beyond 126 at " + i);
            }
        }
        Matcher calls = Pattern.compile("\\b(Integer|Long|Math|System|Arrays|Character|String)\\.(\\w+)").matcher(code);
        Set<String> known = Set.of("Math.max", "Math.min", "Math.abs", "Integer.bitCount", "System.arraycopy");
        while (calls.find()) {
            if (!known.contains(calls.group())) {
                bad("not looked at yet: " + calls.group());
            }
        }
    }

    private static void lengths(String code) {
        String[] lines = code.split("\n");
        int start = -1;
        for (int i = 0; i < lines.length; i++) {
            boolean opens = lines[i].endsWith("{") && lines[i].contains("(");
            if (opens && (lines[i].matches(" {4}\\S.*") || lines[i].matches(" {8}\\S.*") && start < 0)) {
                start = i;
            }
            if (start >= 0 && lines[i].matches(" {4}\\}| {8}\\}")) {
                if (i - start + 1 > 60) {
                    bad("the method at " + lines[start].trim() + " has " + (i - start + 1) + " lines");
                }
                start = -1;
            }
        }
    }

    /** Rule 8: methods that call one another, or a static one that calls itself. */
    private static void recursion(String code) {
        String head = "(?m)^ +(?:private )?(static )?(?:\\w+(?:\\[\\])*) (\\w+)\\([^;{]*\\) \\{$";
        Matcher heads = Pattern.compile(head).matcher(code);
        int methods = 0;
        while (heads.find()) {
            methods++;
            int end = heads.end();
            for (int open = 1; end < code.length() && open > 0; end++) {
                open += code.charAt(end) == '{' ? 1 : code.charAt(end) == '}' ? -1 : 0;
            }
            Pattern itself = Pattern.compile("(?<![.\\w])" + heads.group(2) + "\\(");
            if (heads.group(1) == null && itself.matcher(code.substring(heads.end(), end)).find()) {
                bad("calls itself: " + heads.group(2));
            }
        }
        if (methods < 100) {
            bad("just " + methods + " methods were found");
        }
    }
}
