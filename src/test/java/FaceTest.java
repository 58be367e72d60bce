import java.io.IOException;
import java.lang.reflect.Constructor;
import java.lang.reflect.Field;
import java.lang.reflect.Method;
import java.lang.reflect.Modifier;
import java.nio.file.Files;
import java.nio.file.Path;
import java.util.Arrays;
import java.util.Set;
import java.util.TreeSet;
import java.util.regex.Matcher;
import java.util.regex.Pattern;

/** The public face, and what LANGUAGE.md asks as far as class and source show it. */
public final class FaceTest {
    private static final Check CHECK = new Check();
    private static final Set<String> FACE = new TreeSet<>(Arrays.asList(
            "int feed(int,int,int,int,int)", "int tongue()", "int learn(int,int)", "boolean forget(int)",
            "int keyword(int,int)", "int name(int)", "boolean set(int,int)", "int pair(int,int,int)",
            "int text(int)", "int more(int)", "int word(int,int)", "int cost(int,int)", "int part()",
            "int told(int)", "int spans()", "int span(int,int)", "int sure(int)", "int fixed()",
            "int whole(int)", "int tells(int,int)", "int telling(int)", "int count(int)", "int trouble()"));

    public static void main(String[] args) throws IOException {
        face();
        classes();
        source();
        CHECK.end();
    }

    private static void face() {
        Class<?> teller = TongueTeller.class;
        CHECK.due("public final", teller.getModifiers(), Modifier.PUBLIC | Modifier.FINAL);
        Set<String> open = new TreeSet<>();
        Set<String> openNames = new TreeSet<>();
        for (Method method : teller.getDeclaredMethods()) {
            if (!Modifier.isPrivate(method.getModifiers()) && !method.isSynthetic()) {
                CHECK.due("public " + method.getName(), method.getModifiers(), Modifier.PUBLIC);
                String full = method.toString();
                String parameters = full.substring(full.indexOf('('), full.indexOf(')') + 1);
                open.add(method.getReturnType() + " " + method.getName() + parameters);
                openNames.add(method.getName());
            }
        }
        CHECK.due("the methods " + open, open.equals(FACE), true);
        CHECK.due("as many names", openNames.size(), FACE.size());
        noPrivateMethodNamed(openNames, teller);
        for (Constructor<?> made : teller.getDeclaredConstructors()) {
            CHECK.due("constructor", made.getParameterCount(), 0);
            CHECK.due("constructor public", made.getModifiers(), Modifier.PUBLIC);
        }
        for (Field field : teller.getDeclaredFields()) {
            boolean constant = field.getName().equals("NONE");
            CHECK.due("private " + field.getName(), Modifier.isPrivate(field.getModifiers()), !constant);
            if (Modifier.isStatic(field.getModifiers())) {
                CHECK.due("final " + field.getName(), Modifier.isFinal(field.getModifiers()), true);
            }
        }
        CHECK.due("NONE", TongueTeller.NONE, -1);
    }

    private static void noPrivateMethodNamed(Set<String> openNames, Class<?> type) {
        for (Method method : type.getDeclaredMethods()) {
            if (Modifier.isPrivate(method.getModifiers()) || type != TongueTeller.class) {
                CHECK.due("a name of the face: " + method.getName(), openNames.contains(method.getName()), false);
            }
            CHECK.due("seven parameters: " + method.getName(), method.getParameterCount() <= 7, true);
        }
    }

    private static void classes() {
        Set<String> names = new TreeSet<>();
        for (String method : FACE) {
            names.add(method.substring(method.indexOf(' ') + 1, method.indexOf('(')));
        }
        Class<?>[] inside = TongueTeller.class.getDeclaredClasses();
        CHECK.due("some twelve classes", inside.length <= 11, true);
        for (Class<?> type : inside) {
            CHECK.due("static " + type, Modifier.isStatic(type.getModifiers()), true);
            CHECK.due("private " + type, Modifier.isPrivate(type.getModifiers()), true);
            noPrivateMethodNamed(names, type);
        }
        for (Class<?> type : TongueTeller.class.getNestMembers()) {
            long fields = Arrays.stream(type.getDeclaredFields())
                    .filter(field -> !Modifier.isStatic(field.getModifiers())).count();
            CHECK.due("some twenty fields in " + type, fields <= 20, true);
        }
    }

    private static void source() throws IOException {
        String source = Files.readString(Path.of("src/main/java/TongueTeller.java"));
        String code = source.replaceAll("(?s)/\\*.*?\\*/", "").replaceAll("//[^\n]*", "");
        String[] ruledOut = {"\\bcatch\\b", "\\btry\\b", "\\bfinally\\b", "->", "::", "\\bsynchronized\\b",
            "\\bassert\\b", "Exact\\b", "\\bpackage\\b", "\\bhashCode\\b", "\\btoString\\b", "\\bequals\\b",
            "\\bvar\\b", "\\bstatic \\{", "\\bRandom\\b", "\\bThread\\b", "currentTimeMillis", "nanoTime",
            "\\bjava\\.(?!util\\.NoSuchElementException;)", "while \\(true\\)", "\\bprotected\\b"};
        for (String pattern : ruledOut) {
            Matcher found = Pattern.compile(pattern).matcher(code);
            CHECK.due("ruled out: " + pattern, found.find(), false);
        }
        Matcher calls = Pattern.compile("\\b(?:Math|Integer|System|Arrays|Long)\\.(\\w+)").matcher(code);
        Set<String> listed = new TreeSet<>(Arrays.asList("min", "max", "bitCount", "MAX_VALUE", "arraycopy"));
        while (calls.find()) {
            CHECK.due("listed: " + calls.group(1), listed.contains(calls.group(1)), true);
        }
        CHECK.due("signs 1 to 127 alone", source.chars().allMatch(sign -> sign > 0 && sign < 128), true);
        shortMethods(code);
        madeByCalls(code);
    }

    /** The room that all calls of a run share is kept small: of all calls learn alone makes something. */
    private static void madeByCalls(String code) {
        Set<String> made = new TreeSet<>();
        for (String line : code.split("\n")) {
            boolean field = line.matches("^(?: {4}| {8})(?:private |final |private final )\\S.*");
            if (line.matches(".*\\bnew\\b.*") && !field && !line.contains("throw new ")) {
                made.add(line.trim());
            }
        }
        Set<String> due = new TreeSet<>(Arrays.asList(
                "Learnt fresh = new Learnt(nextLearnt, tongue, trailOfDraft());", "byte[] trail = new byte[length];",
                "letters = new byte[places * MOST_LETTERS];", "lengths = new int[places];"));
        CHECK.due("made in methods and constructors: " + made, made.equals(due), true);
    }

    /** Methods of the outer class stand four blanks in, those of the others eight. */
    private static void shortMethods(String code) {
        String[] lines = code.split("\n");
        for (int indent = 4; indent <= 8; indent += 4) {
            String blanks = " ".repeat(indent);
            int begun = -1;
            for (int k = 0; k < lines.length; k++) {
                boolean here = lines[k].startsWith(blanks) && !lines[k].startsWith(blanks + " ");
                if (here && lines[k].endsWith(") {")) {
                    begun = k;
                } else if (here && lines[k].equals(blanks + "}") && begun >= 0) {
                    CHECK.due("short: " + lines[begun].trim(), k - begun < 60, true);
                    begun = -1;
                }
            }
        }
    }
}
