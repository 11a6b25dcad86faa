import java.io.IOException;
import java.lang.reflect.Constructor;
import java.lang.reflect.Field;
import java.lang.reflect.Method;
import java.lang.reflect.Modifier;
import java.nio.file.Files;
import java.nio.file.Path;
import java.util.Arrays;
import java.util.List;
import java.util.NoSuchElementException;
import java.util.TreeSet;
import java.util.regex.Pattern;

/** The public face that the document tells, and what of LANGUAGE.md can be seen in the text alone. */
public final class FaceTest extends Checks {
    /** Each method with how many numbers it takes. */
    private static final String FACE = "feed5 theory1 fresh0 fault0 where0 about1 used1 theorem2 same2 "
        + "better1 term2 write1 writeType1 writeOf2 writeSide2 octet1 refl1 trans2 comb2 abs2 beta1 assume1 "
        + "eqmp2 deduct2 inst3 eta1 sym1 convert1 rewrite2 normal1 decide1 unfold1 named1 size0 trouble0";

    public static void main(String[] args) throws IOException {
        face();
        nothingElse();
        text();
        end();
    }

    private static void face() {
        TreeSet<String> got = new TreeSet<>();
        for (Method m : TenRules.class.getDeclaredMethods()) {
            if (Modifier.isPublic(m.getModifiers())) {
                got.add(m.getName() + m.getParameterCount());
                due(m.getName() + " answers an int", m.getReturnType() == int.class);
                due(m.getName() + " takes ints", Arrays.stream(m.getParameterTypes())
                    .allMatch(t -> t == int.class));
                due(m.getName() + " is no static one", !Modifier.isStatic(m.getModifiers()));
                List<Class<?>> thrown = List.of(m.getExceptionTypes());
                due(m.getName() + " throws", thrown.equals(m.getName().equals("named")
                    ? List.of(NoSuchElementException.class) : List.of()));
            }
        }
        due("the methods", got.toString(), new TreeSet<>(List.of(FACE.split(" "))).toString());
        due("NONE", TenRules.NONE, -1);
    }

    private static void nothingElse() {
        due("public and final", Modifier.toString(TenRules.class.getModifiers()), "public final");
        Constructor<?>[] made = TenRules.class.getDeclaredConstructors();
        due("one constructor", made.length, 1);
        due("without a number", made[0].getParameterCount(), 0);
        for (Field f : TenRules.class.getDeclaredFields()) {
            boolean none = f.getName().equals("NONE");
            due(f.getName(), none ? Modifier.isPublic(f.getModifiers()) : Modifier.isPrivate(f.getModifiers()));
        }
        TreeSet<String> names = new TreeSet<>();
        for (Method m : TenRules.class.getDeclaredMethods()) {
            boolean open = Modifier.isPublic(m.getModifiers());
            due(m.getName(), open || Modifier.isPrivate(m.getModifiers()));
            due(m.getName() + " is one", names.add(m.getName()));
        }
        for (Class<?> c : TenRules.class.getDeclaredClasses()) {
            due(c.getName() + " is static", Modifier.isStatic(c.getModifiers()));
            due(c.getName() + " isn't public", !Modifier.isPublic(c.getModifiers()));
            int fields = 0;
            for (Field f : c.getDeclaredFields()) {
                boolean fixed = Modifier.isStatic(f.getModifiers());
                due(f.getName() + " is final if static", !fixed || Modifier.isFinal(f.getModifiers()));
                fields += fixed ? 0 : 1;
            }
            due(c.getName() + " has some twenty fields at most", fields <= 20);
        }
        due("some twelve classes", TenRules.class.getDeclaredClasses().length <= 11);
    }

    /** Rules 2, 4, 6, 7, 11 and 13, as far as words tell them. */
    private static void text() throws IOException {
        String all = Files.readString(Path.of("src/main/java/TenRules.java"));
        String code = all.replaceAll("(?s)/\\*.*?\\*/", "").replaceAll("(?m)//.*$", "");
        String[] words = {"->", "::", "catch", "finally", "synchronized", "assert ", "static \\{", "System\\.",
            "package ", "Object", "@", "hashCode", "toString", "getClass", "Thread", "Random", "Exact\\("};
        String free = code.replace("System.arraycopy", "");
        for (String word : words) {
            due("no " + word, !Pattern.compile(word).matcher(free).find());
        }
        for (String line : code.split("\n")) {
            if (line.startsWith("import ")) {
                due(line, line.equals("import java.util.Arrays;")
                    || line.equals("import java.util.NoSuchElementException;"));
            }
            due("signs 1 to 127: " + line, line.chars().allMatch(c -> c > 0 && c < 128));
        }
        due("one throw", code.split("throw new ").length, 2);
        methods(all.split("\n"));
    }

    /** A method begins with a line that ends in { at its class's depth, and ends with its }. */
    private static void methods(String[] lines) {
        for (int i = 0; i < lines.length; i++) {
            String line = lines[i];
            String indent = line.substring(0, line.length() - line.stripLeading().length());
            boolean begins = line.endsWith(") {") && line.contains("(") && (indent.length() == 4
                || indent.length() == 8) && !line.strip().matches("(if|for|while|switch|\\}).*");
            if (begins) {
                int to = i;
                while (to < lines.length - 1 && !lines[to].equals(indent + "}")) {
                    to++;
                }
                due("a short method: " + line.strip(), to - i <= 60);
                due("at most seven parameters: " + line.strip(), line.split(",").length <= 7);
            }
        }
    }
}
