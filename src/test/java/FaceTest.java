import java.io.IOException;
import java.lang.reflect.Constructor;
import java.lang.reflect.Field;
import java.lang.reflect.Method;
import java.lang.reflect.Modifier;
import java.nio.file.Files;
import java.nio.file.Path;
import java.util.Arrays;
import java.util.Set;
import java.util.TreeSet;
import java.util.regex.Matcher;
import java.util.regex.Pattern;

/** The class has the document's face and no other, and its source keeps to what of LANGUAGE.md a search can see. */
public final class FaceTest {
    private static final String FACE = "feed(int,long) river() plan() fault() told(int) node(int,int) gate(int,int) go(int) width(int,int) "
        + "pour(int,int) showers(int,int) log(int,int) wood(int,int) clear() tried(int,int,int) slack(int,int) boat(int,int,int,int) "
        + "sent(int,int,int,int) ring(int,int) drained(int,int,int) nearest(int,int,int) stopped(int) write(int) tear() judge(int) "
        + "seed(int) keep(int) goBack(int)";

    public static void main(String[] args) throws IOException {
        methods();
        members();
        source();
        Due.end();
    }

    private static void methods() {
        Set<String> open = new TreeSet<>();
        Set<String> names = new TreeSet<>();
        for (Method m : TurnedRiver.class.getDeclaredMethods()) {
            if (!Modifier.isPrivate(m.getModifiers())) {
                Due.holds(m + " is plainly public", m.getModifiers() == Modifier.PUBLIC && m.getReturnType() == int.class);
                String types = Arrays.toString(Arrays.stream(m.getParameterTypes()).map(Class::getName).toArray()).replaceAll("[\\[\\] ]", "");
                open.add(m.getName() + "(" + types + ")");
                names.add(m.getName());
            }
        }
        Due.same("public methods", open.toString(), new TreeSet<>(Arrays.asList(FACE.split(" "))).toString());
        for (Class<?> c : classes()) {
            for (Method m : c.getDeclaredMethods()) {
                boolean hidden = c != TurnedRiver.class || Modifier.isPrivate(m.getModifiers());
                Due.holds(m + " has a name of its own", !hidden || !names.contains(m.getName()));
                Due.holds(m + " takes seven at most", m.getParameterCount() <= 7);
            }
        }
    }

    private static Class<?>[] classes() {
        Class<?>[] inner = TurnedRiver.class.getDeclaredClasses();
        Class<?>[] all = Arrays.copyOf(inner, inner.length + 1);
        all[inner.length] = TurnedRiver.class;
        return all;
    }

    private static void members() {
        Due.is("modifiers", TurnedRiver.class.getModifiers(), Modifier.PUBLIC | Modifier.FINAL);
        Constructor<?>[] made = TurnedRiver.class.getDeclaredConstructors();
        Due.is("constructors", made.length, 1);
        Due.holds("a public one without parameters", made[0].getParameterCount() == 0 && made[0].getModifiers() == Modifier.PUBLIC);
        Set<String> open = new TreeSet<>();
        for (Class<?> c : classes()) {
            int own = 0;
            for (Field f : c.getDeclaredFields()) {
                boolean constant = Modifier.isStatic(f.getModifiers());
                Due.holds(f + " is final if static", !constant || Modifier.isFinal(f.getModifiers()));
                own += constant ? 0 : 1;
                if (c == TurnedRiver.class && !Modifier.isPrivate(f.getModifiers())) {
                    open.add(f.getName());
                }
            }
            Due.holds(c + " has twenty fields at most", own <= 20);
            Due.holds(c + " is static", c == TurnedRiver.class || Modifier.isStatic(c.getModifiers()));
        }
        Due.same("constants", open.toString(), "[FULL, NONE, NOT, OUTSIDE, UNKNOWN]");
        Due.holds("twelve classes at most", classes().length <= 12);
        int[] got = {TurnedRiver.NONE, TurnedRiver.UNKNOWN, TurnedRiver.OUTSIDE, TurnedRiver.NOT, TurnedRiver.FULL};
        Due.same("their numbers", Arrays.toString(got), "[-1, -100000001, -100000002, -100000003, -100000004]");
    }

    private static void source() throws IOException {
        String text = Files.readString(Path.of("src/main/java/TurnedRiver.java"));
        String code = text.replaceAll("(?s)/\\*.*?\\*/", "").replaceAll("//[^\n]*", "").replaceAll("\"[^\"\n]*\"", "\"\"");
        String banned = "\\b(throw|throws|try|catch|finally|synchronized|assert|import|package|volatile|transient|native|var|Exact|"
            + "hashCode|toString|equals)\\b|->|::|\\w+Exact\\b|[^\\x00-\\x7f]|\\b(Integer|Long)\\.[A-Z_]+\\b";
        Matcher m = Pattern.compile(banned).matcher(code);
        while (m.find()) {
            Due.holds("not in the language: " + m.group(), false);
        }
        // All rows are made with the object: a 'new' stands in a field's line or in the constructor's.
        for (String line : code.split("\n")) {
            boolean field = line.matches("\\s*(private )?(final )?\\w+(\\[\\])? \\w+ = new .*;");
            boolean image = line.trim().equals("images[i] = new State();");
            Due.holds("made by a call: " + line.trim(), !line.matches(".*\\bnew\\b.*") || field || image);
        }
    }
}
