import java.io.IOException;
import java.lang.reflect.Field;
import java.lang.reflect.Method;
import java.lang.reflect.Modifier;
import java.nio.file.Files;
import java.nio.file.Path;
import java.util.ArrayList;
import java.util.Arrays;
import java.util.List;
import java.util.TreeSet;
import java.util.regex.Matcher;
import java.util.regex.Pattern;

/** Rules of LANGUAGE.md that the source text or the compiled class shows, and the document's face. */
public final class LanguageTest {
    private static final Check check = new Check();
    private static final String FACE = "all(int) at(int,int) clear() count(int) delay(int,int) drop(int) fate(int,int) "
        + "film(int,int,int) image() item(int,int,int,int) motor(int) open(int,int) orders(int,int) people() "
        + "person(int,int,int) restore() set(int,int) share(int,int,int) shared(int,int) sheet(int,int,int) "
        + "times(int,int,int,int,int) told(int,int) type(long,int) warmest(int,int) within(int,int) without(int)";

    private static void face() throws IllegalAccessException {
        TreeSet<String> found = new TreeSet<>();
        TreeSet<String> hidden = new TreeSet<>();
        for (Method m : TurnDoor.class.getDeclaredMethods()) {
            List<String> types = new ArrayList<>();
            for (Class<?> t : m.getParameterTypes()) {
                types.add(t.getName());
            }
            if (Modifier.isPrivate(m.getModifiers())) {
                hidden.add(m.getName());
            } else {
                found.add(m.getName() + "(" + String.join(",", types) + ")");
                check.holds(m + " is a public method of int", Modifier.isPublic(m.getModifiers())
                    && !Modifier.isStatic(m.getModifiers()) && m.getReturnType() == int.class);
            }
        }
        check.holds("1 methods are " + found, found.equals(new TreeSet<>(Arrays.asList(FACE.split(" ")))));
        for (String name : FACE.split(" ")) {
            check.holds("1 no private " + name, !hidden.contains(name.substring(0, name.indexOf('('))));
        }
        check.holds("1 one public constructor", TurnDoor.class.getConstructors().length == 1
            && TurnDoor.class.getDeclaredConstructors().length == 1);
        check.holds("1 public and final", Modifier.toString(TurnDoor.class.getModifiers()).equals("public final"));
        String[] names = {"BAD", "NOT", "FULL", "NONE", "NULL", "CAST", "INDEX", "SIZE"};
        int[] values = {-1, -2, -3, -4, -11, -12, -13, -14};
        int open = 0;
        for (Field f : TurnDoor.class.getDeclaredFields()) {
            if (!Modifier.isPrivate(f.getModifiers())) {
                open++;
                int i = Arrays.asList(names).indexOf(f.getName());
                check.holds("1 constant " + f, i >= 0 && Modifier.toString(f.getModifiers()).equals("public static final"));
                check.due(f.getName(), i >= 0 ? f.getInt(null) : 0, i >= 0 ? values[i] : 1);
            }
        }
        check.due("constants", open, names.length);
    }

    private static void classes() {
        Class<?>[] inside = TurnDoor.class.getDeclaredClasses();
        check.holds("11 at most twelve classes", inside.length + 1 <= 12);
        List<Class<?>> all = new ArrayList<>(Arrays.asList(inside));
        all.add(TurnDoor.class);
        for (Class<?> c : all) {
            int own = 0;
            for (Field f : c.getDeclaredFields()) {
                if (Modifier.isStatic(f.getModifiers())) {
                    check.holds("5 final " + f, Modifier.isFinal(f.getModifiers()));
                } else {
                    own++;
                }
            }
            check.holds("11 some twenty fields in " + c + ", not " + own, own <= 20);
            check.holds("2 static " + c, c == TurnDoor.class || Modifier.isStatic(c.getModifiers()));
            for (Method m : c.getDeclaredMethods()) {
                check.holds("11 seven parameters " + m, m.getParameterCount() <= 7);
            }
        }
    }

    private static void words(String source) {
        String code = source.replaceAll("(?s)/\\*.*?\\*/", "").replaceAll("//[^\n]*", "").replaceAll("\"[^\"\n]*\"", "\"\"");
        String[] never = {"\\bthrow\\b", "\\bthrows\\b", "\\btry\\b", "\\bcatch\\b", "\\bsynchronized\\b", "\\bassert\\b", "->",
            "::", "\\bpackage\\b", "\\bprotected\\b", "\\bstatic\\s*\\{", "Exact\\b", "\\bequals\\b", "\\bhashCode\\b",
            "\\bRandom\\b", "System\\.(?!arraycopy)", "\\bThread\\b", "\\bvar\\b", "\\bdouble\\b", "\\bfloat\\b", "\\bObject\\b"};
        for (String n : never) {
            Matcher m = Pattern.compile(n).matcher(code);
            check.holds("no " + n, !m.find());
        }
        Matcher imports = Pattern.compile("import ([\\w.*]+);").matcher(code);
        while (imports.find()) {
            check.holds("4 import " + imports.group(1), imports.group(1).equals("java.util.Arrays"));
        }
        for (int i = 0; i < source.length(); i++) {
            if (source.charAt(i) > 126) {
                check.holds("3 sign " + (int) source.charAt(i), false);
            }
        }
        // all rows are made with the object, so that no run of calls can fill the room
        for (String line : code.split("\n")) {
            if (line.contains("new ")) {
                check.holds("12 made in a call: " + line, line.matches("\\s+private (final )?\\S+ \\w+ = new .*;")
                    || line.contains("sheets[i] = new Sheet()"));
            }
        }
    }

    private static void lengths(String source) {
        int start = -1;
        String[] lines = source.split("\n");
        for (int i = 0; i < lines.length; i++) {
            if (lines[i].matches("( {4}| {8})(public|private)[^=;]*\\) \\{")) {
                start = i;
            }
            if (start >= 0 && lines[i].equals(lines[start].replaceAll("\\S.*", "") + "}")) {
                check.holds("11 sixty lines from " + lines[start], i - start < 60);
                start = -1;
            }
        }
    }

    public static void main(String[] args) throws IOException, IllegalAccessException {
        String source = Files.readString(Path.of("src/main/java/TurnDoor.java"));
        face();
        classes();
        words(source);
        lengths(source);
        check.end("LanguageTest");
    }
}
