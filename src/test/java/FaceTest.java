import java.io.IOException;
import java.lang.reflect.Constructor;
import java.lang.reflect.Field;
import java.lang.reflect.Method;
import java.lang.reflect.Modifier;
import java.nio.charset.StandardCharsets;
import java.nio.file.Files;
import java.nio.file.Path;
import java.util.ArrayList;
import java.util.Collections;
import java.util.List;
import java.util.NoSuchElementException;
import java.util.Set;
import java.util.TreeSet;

/** The public face of the document, no more and no less, and the rules of the language that can be counted. */
public final class FaceTest extends Probe {
    private static final String[] FACE = {"int feed(int,int,int,int,int)", "boolean end(int)", "int file(int)", "int switches()",
        "int set(int)", "int run(int)", "int fault(int)", "int expand()", "long value() throws", "int token(int,int) throws",
        "int tokenAt(int,int)", "int macro(int,int) throws", "int macroAt(int,int)", "int now(int)", "int passed(int,int)",
        "int presence(int,int,int)", "int outcomes(int)", "int like(int,int)", "int depends(int)", "int guard(int)", "int guardAt(int)",
        "int nextOf(int,int)", "int edit(int,int)", "int drop(int,int)", "boolean image(int)", "boolean restore(int)", "int count(int)",
        "int lines(int)"};

    private static String signature(Method m) {
        List<String> types = new ArrayList<>();
        for (Class<?> c : m.getParameterTypes()) {
            types.add(c.getSimpleName());
        }
        boolean throwsOne = m.getExceptionTypes().length == 1 && m.getExceptionTypes()[0] == NoSuchElementException.class;
        return m.getReturnType().getSimpleName() + " " + m.getName() + "(" + String.join(",", types) + ")" + (throwsOne ? " throws" : "");
    }

    private static void face() {
        sentence("The public face");
        due("public and final", Modifier.isPublic(HideSets.class.getModifiers()) && Modifier.isFinal(HideSets.class.getModifiers()), true);
        due("no package", HideSets.class.getPackageName(), "");
        List<String> got = new ArrayList<>();
        for (Method m : HideSets.class.getDeclaredMethods()) {
            if (Modifier.isPublic(m.getModifiers())) {
                got.add(signature(m));
                due(m.getName() + " is no static one", Modifier.isStatic(m.getModifiers()), false);
            } else {
                due(m.getName() + " is private", Modifier.isPrivate(m.getModifiers()), true);
            }
        }
        List<String> want = new ArrayList<>(List.of(FACE));
        Collections.sort(got);
        Collections.sort(want);
        due("methods", got.toString(), want.toString());
        Constructor<?>[] made = HideSets.class.getDeclaredConstructors();
        due("one constructor", made.length, 1);
        due("public, without parameters", Modifier.isPublic(made[0].getModifiers()) && made[0].getParameterCount() == 0, true);
        for (Field f : HideSets.class.getDeclaredFields()) {
            boolean isNone = f.getName().equals("NONE") && f.getType() == int.class && Modifier.isPublic(f.getModifiers());
            due("field " + f.getName(), isNone || Modifier.isPrivate(f.getModifiers()), true);
        }
        due("NONE", HideSets.NONE, -1);
    }

    private static void classesInside() {
        sentence("LANGUAGE: rules 1, 2, 5 and 11, as far as classes show them");
        Set<String> faceNames = new TreeSet<>();
        for (String s : FACE) {
            faceNames.add(s.substring(s.indexOf(' ') + 1, s.indexOf('(')));
        }
        List<Class<?>> all = new ArrayList<>(List.of(HideSets.class.getDeclaredClasses()));
        due("some twelve classes", all.size() + 1 <= 12, true);
        all.add(HideSets.class);
        for (Class<?> c : all) {
            due(c.getSimpleName() + " is static", c == HideSets.class || Modifier.isStatic(c.getModifiers()), true);
            int fields = 0;
            for (Field f : c.getDeclaredFields()) {
                boolean isStatic = Modifier.isStatic(f.getModifiers());
                due(f.getName() + ": static fields are final", !isStatic || Modifier.isFinal(f.getModifiers()), true);
                fields += isStatic ? 0 : 1;
            }
            due(c.getSimpleName() + " has some twenty fields", fields <= 20, true);
            for (Method m : c.getDeclaredMethods()) {
                due(m.getName() + " has at most seven parameters", m.getParameterCount() <= 7, true);
                due(c.getSimpleName() + "." + m.getName() + " is no name of the face", c != HideSets.class && faceNames.contains(m.getName()), false);
            }
        }
    }

    private static void text() {
        sentence("LANGUAGE: rules 4, 6 and 11, as far as the text shows them");
        String all;
        try {
            all = Files.readString(Path.of("src/main/java/HideSets.java"), StandardCharsets.ISO_8859_1);
        } catch (IOException e) {
            due("the source can be read from where .ci/run stands", false, true);
            return;
        }
        for (String word : new String[] {"try {", "catch", "finally", "synchronized", "assert ", "->", "::", "Exact(", "import java.io",
            "static {", "System.out", "System.nano", "Random", "Thread", "instanceof"}) {
            due("no " + word, all.contains(word), false);
        }
        int imports = 0;
        int longest = 0;
        int begun = 0;
        String[] lines = all.split("\n", -1);
        for (int i = 0; i < lines.length; i++) {
            imports += lines[i].startsWith("import ") ? 1 : 0;
            String line = lines[i].trim();
            boolean isMethod = lines[i].matches("( {4}| {8})[a-z].*\\) (throws NoSuchElementException )?\\{")
                    && !line.matches("(if|for|while|switch|\\} else).*");
            begun = isMethod ? i : begun;
            if (lines[i].matches("( {4}| {8})\\}")) {
                longest = begun > 0 ? Math.max(longest, i - begun + 1) : longest;
                begun = 0;
            }
            due("line " + (i + 1) + " has signs of ASCII alone", lines[i].matches("[ -~]*"), true);
        }
        due("two imports", imports, 2);
        due("methods of some sixty lines", longest > 20 && longest <= 60, true);
    }

    public static void main(String[] args) {
        face();
        classesInside();
        text();
        close("face and rules");
    }
}
