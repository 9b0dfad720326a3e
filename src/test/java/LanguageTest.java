import java.io.IOException;
import java.lang.reflect.Constructor;
import java.lang.reflect.Executable;
import java.lang.reflect.Field;
import java.lang.reflect.Method;
import java.lang.reflect.Modifier;
import java.nio.charset.StandardCharsets;
import java.nio.file.Files;
import java.nio.file.Path;
import java.util.Arrays;
import java.util.Set;
import java.util.TreeSet;
import java.util.regex.Matcher;
import java.util.regex.Pattern;

/** The face of the document, and those rules of LANGUAGE.md that a look at the file can tell. */
public final class LanguageTest {
    private static final Check CHECK = new Check("LanguageTest");
    /** A method as the document's face writes it: what it answers, its name, its parameters. */
    private static final Pattern METHOD = Pattern.compile("    public (\\w+) (\\w+)\\((.*)\\);");

    public static void main(String[] args) throws Exception {
        face();
        inside();
        source(Files.readString(Path.of("src/main/java/TailorRegiment.java"), StandardCharsets.ISO_8859_1));
        CHECK.finish();
    }

    private static String signature(Method m) {
        String types = Arrays.toString(Arrays.stream(m.getParameterTypes()).map(Class::getName).toArray());
        return m.getReturnType().getName() + " " + m.getName() + "("
                + types.substring(1, types.length() - 1).replace(" ", "") + ")";
    }

    private static Set<String> documentFace() throws IOException {
        Set<String> face = new TreeSet<>();
        for (String line : Files.readAllLines(Path.of("../shared/DOC.md"), StandardCharsets.UTF_8)) {
            Matcher method = METHOD.matcher(line);
            if (method.matches()) {
                String types = method.group(3).replaceAll(" \\w+(,|$)", "$1").replace(" ", "");
                face.add(method.group(1) + " " + method.group(2) + "(" + types + ")");
            }
        }
        return face;
    }

    private static void face() throws Exception {
        Set<String> due = documentFace();
        CHECK.due("methods of the document's face", due.size(), 47);
        Set<String> got = new TreeSet<>();
        for (Method m : TailorRegiment.class.getDeclaredMethods()) {
            if (!Modifier.isPrivate(m.getModifiers())) {
                got.add(signature(m));
                CHECK.due("public and no static: " + m, m.getModifiers(), Modifier.PUBLIC);
            }
        }
        CHECK.due("the face has " + due + ", the class " + got, due.equals(got), true);
        CHECK.due("the class is public and final", TailorRegiment.class.getModifiers(),
                Modifier.PUBLIC | Modifier.FINAL);
        Constructor<?>[] made = TailorRegiment.class.getDeclaredConstructors();
        CHECK.due("one constructor", made.length, 1);
        CHECK.due("public", made[0].getModifiers(), Modifier.PUBLIC);
        CHECK.due("without parameters", made[0].getParameterCount(), 0);
        for (Field f : TailorRegiment.class.getDeclaredFields()) {
            CHECK.due("private but NONE: " + f, Modifier.isPrivate(f.getModifiers()), !f.getName().equals("NONE"));
        }
        Field none = TailorRegiment.class.getField("NONE");
        CHECK.due("NONE's modifiers", none.getModifiers(), Modifier.PUBLIC | Modifier.STATIC | Modifier.FINAL);
        CHECK.due("NONE", none.getInt(null), -1);
    }

    private static void inside() {
        Set<String> names = new TreeSet<>();
        for (Method m : TailorRegiment.class.getDeclaredMethods()) {
            if (Modifier.isPublic(m.getModifiers())) {
                names.add(m.getName());
            }
        }
        Class<?>[] classes = TailorRegiment.class.getDeclaredClasses();
        CHECK.due("classes, some twelve", classes.length < 13, true);
        looked(TailorRegiment.class);
        for (Class<?> c : classes) {
            CHECK.due("static: " + c, Modifier.isStatic(c.getModifiers()), true);
            CHECK.due("neither public nor protected: " + c,
                    (c.getModifiers() & (Modifier.PUBLIC | Modifier.PROTECTED)) == 0, true);
            looked(c);
            for (Method m : c.getDeclaredMethods()) {
                CHECK.due("no name of a public one: " + m, names.contains(m.getName()), false);
            }
        }
    }

    private static void looked(Class<?> c) {
        int fields = 0;
        for (Field f : c.getDeclaredFields()) {
            if (Modifier.isStatic(f.getModifiers())) {
                CHECK.due("final: " + f, Modifier.isFinal(f.getModifiers()), true);
            } else {
                fields++;
            }
        }
        CHECK.due("fields of " + c + ", some twenty", fields <= 20, true);
        for (Method m : c.getDeclaredMethods()) {
            parameters(m);
            CHECK.due("made by no lambda: " + m, m.isSynthetic(), false);
        }
        for (Constructor<?> made : c.getDeclaredConstructors()) {
            parameters(made);
        }
    }

    private static void parameters(Executable e) {
        CHECK.due("seven parameters at most: " + e, e.getParameterCount() <= 7, true);
    }

    private static void source(String file) {
        for (char c : file.toCharArray()) {
            if (c != '\n' && (c < 32 || c > 126)) {
                CHECK.due("a sign that is not plain", c, ' ');
            }
        }
        String code = file.replaceAll("(?s)/\\*.*?\\*/", "").replaceAll("//[^\n]*", "")
                .replaceAll("\"[^\"\n]*\"", "\"\"").replaceAll("'[^'\n]+'", "' '");
        for (String word : ("throw throws try catch synchronized assert volatile package Object Thread Random Scanner"
                + " StackTraceElement hashCode toString getClass protected native transient").split(" ")) {
            CHECK.due("no " + word, Pattern.compile("\\b" + word + "\\b").matcher(code).find(), false);
        }
        CHECK.due("no lambda", code.contains("->"), false);
        CHECK.due("no method reference", code.contains("::"), false);
        CHECK.due("nothing that is Exact", code.contains("Exact("), false);
        Matcher library = Pattern.compile("\\b(import|System|Arrays|Math|Integer|Long)\\b[ .]+(\\w+(\\.\\w+)*)")
                .matcher(code);
        Set<String> free = Set.of("java.util.Arrays", "arraycopy", "fill", "max", "min", "abs", "bitCount",
                "lowestOneBit", "numberOfTrailingZeros", "numberOfLeadingZeros");
        while (library.find()) {
            CHECK.due("from the library: " + library.group(), free.contains(library.group(2)), true);
        }
        made(code);
        methodLengths(file);
    }

    /** Only fields are set to something new, which constructors do: no call takes room. */
    private static void made(String code) {
        for (String line : code.split("\n")) {
            if (line.contains(" new ")) {
                boolean field = line.matches(" +(private final [\\w\\[\\]]+ )?\\w+ = new .*;");
                CHECK.due("made for a field: " + line, field, true);
            }
        }
    }

    /** Methods of the outer class stand four deep, those of the classes inside eight. */
    private static void methodLengths(String file) {
        String[] lines = file.split("\n");
        int from = -1;
        String close = "";
        for (int i = 0; i < lines.length; i++) {
            if (from < 0 && lines[i].matches("( {4}| {8})[\\w ]+\\(.*\\) \\{")) {
                from = i;
                close = lines[i].replaceAll("\\S.*", "") + "}";
            } else if (from >= 0 && lines[i].equals(close)) {
                CHECK.due("sixty lines at most: " + lines[from], i - from <= 60, true);
                from = -1;
            }
        }
    }
}
