import java.lang.reflect.Field;
import java.lang.reflect.Method;
import java.lang.reflect.Modifier;
import java.nio.charset.StandardCharsets;
import java.nio.file.Files;
import java.nio.file.Path;
import java.util.TreeSet;
import java.util.regex.Matcher;
import java.util.regex.Pattern;

/** What can be told of LANGUAGE.md's rules by the class itself and by its text, whose path is the argument. */
public final class LanguageTest {
    private static final String FACE = "agree(int,int) answer(int,int,int) answers() bounds(int,int,int,int) carries(int,int) "
        + "classes(int,int,int,int) clear() common(int) count(int) erase() fault() fewest(int) found(int,int,int) item(int,int,int) "
        + "makes(int,int) met(int) of(int,int) part(int,int) pattern(int) putting(int,int) rank() ring(int) sample(int,int) "
        + "sure(int,int) take() tell(int,int,int) turned(int,int) word(int,long,int) write(long,int)";
    private static final String[] NOT_HERE = {"throw", "try", "catch", "finally", "synchronized", "assert", "switch", "native",
        "volatile", "transient", "interface", "double", "float", "System.exit", "Exact", "->", "::", "@", "hashCode", "toString",
        "equals", "package", "protected", "Math.random", "currentTimeMillis", "nanoTime", "Thread", "Throwable", "Exception"};

    private LanguageTest() { }

    public static void main(String[] args) throws Exception {
        face();
        inside();
        text(Files.readString(Path.of(args.length > 0 ? args[0] : "src/main/java/TwoSides.java"), StandardCharsets.US_ASCII));
        Due.end();
    }

    private static void face() throws Exception {
        TreeSet<String> methods = new TreeSet<>();
        for (Method m : TwoSides.class.getDeclaredMethods()) {
            if (Modifier.isPublic(m.getModifiers())) {
                StringBuilder told = new StringBuilder();
                for (Class<?> p : m.getParameterTypes()) told.append(told.length() == 0 ? "" : ",").append(p.getName());
                methods.add(m.getName() + "(" + told + ")");
                Due.hold("1: int " + m, m.getReturnType() == int.class && !Modifier.isStatic(m.getModifiers()));
            } else {
                Due.hold("1: private " + m, Modifier.isPrivate(m.getModifiers()));
            }
        }
        Due.same("1: the face", String.join(" ", methods), FACE);
        int constants = 0;
        for (Field f : TwoSides.class.getDeclaredFields()) {
            Due.hold("5: final " + f, !Modifier.isStatic(f.getModifiers()) || Modifier.isFinal(f.getModifiers()));
            if (Modifier.isPublic(f.getModifiers())) constants++;
            else Due.hold("1: private " + f, Modifier.isPrivate(f.getModifiers()));
        }
        Due.be("1: constants", constants, 7);
        Due.hold("1: final", Modifier.isFinal(TwoSides.class.getModifiers()));
        Due.be("1: constructors", TwoSides.class.getDeclaredConstructors().length, 1);
    }

    private static void inside() {
        TreeSet<String> names = new TreeSet<>();
        for (Method m : TwoSides.class.getDeclaredMethods()) if (Modifier.isPublic(m.getModifiers())) names.add(m.getName());
        Class<?>[] classes = TwoSides.class.getDeclaredClasses();
        Due.hold("11: some twelve classes", classes.length <= 12);
        for (Class<?> c : classes) {
            Due.hold("2: static " + c, Modifier.isStatic(c.getModifiers()));
            int fields = 0;
            for (Field f : c.getDeclaredFields()) {
                if (!Modifier.isStatic(f.getModifiers())) fields++;
                else Due.hold("5: final " + f, Modifier.isFinal(f.getModifiers()));
            }
            Due.hold("11: some twenty fields " + c, fields <= 20);
            for (Method m : c.getDeclaredMethods()) {
                Due.hold("1: a name of the face " + m, !names.contains(m.getName()));
                Due.hold("11: at most seven parameters " + m, m.getParameterCount() <= 7);
                Due.hold("2: no lambda " + m, !m.isSynthetic());
            }
        }
    }

    private static void text(String source) {
        StringBuilder bare = new StringBuilder();
        int inMethod = 0;
        for (String line : source.split("\n")) {
            String code = line.replaceAll("//.*|^ *(/\\*\\*|\\*).*", "");
            bare.append(code).append('\n');
            // a method begins and ends at these depths alone
            if (code.matches(" {4}( {4})?[a-zA-Z].*\\) \\{")) inMethod = 1;
            else if (code.matches(" {4}( {4})?\\}")) inMethod = 0;
            else if (inMethod > 0) inMethod++;
            Due.hold("11: a method of some sixty lines: " + line, inMethod <= 60);
            Due.hold("a line of 120 signs: " + line, line.length() <= 120);
        }
        for (String word : NOT_HERE) {
            boolean sign = !Character.isLetter(word.charAt(0));
            Matcher m = Pattern.compile(sign ? Pattern.quote(word) : "\\b" + Pattern.quote(word) + "\\b").matcher(bare);
            Due.hold("not here: " + word, !m.find());
        }
        Matcher imports = Pattern.compile("import [^;]*;").matcher(bare);
        while (imports.find()) Due.same("4: import", imports.group(), "import java.util.Arrays;");
        Matcher calls = Pattern.compile("\\b(Arrays|Integer|Long|Math|System)\\.\\w+").matcher(bare);
        while (calls.find()) {
            Due.hold("4: " + calls.group(), "Arrays.fill Integer.bitCount Math.min Math.max System.arraycopy".contains(calls.group()));
        }
    }
}
