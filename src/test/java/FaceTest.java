import java.lang.reflect.Constructor;
import java.lang.reflect.Field;
import java.lang.reflect.Method;
import java.lang.reflect.Modifier;
import java.nio.file.Files;
import java.nio.file.Path;
import java.util.Arrays;
import java.util.Set;
import java.util.TreeSet;
import java.util.regex.Matcher;
import java.util.regex.Pattern;
import java.util.stream.Collectors;

/** The public face, as the document has it, and those rules of LANGUAGE.md that can be seen from outside. */
public final class FaceTest {
    private static final String SOURCE = "src/main/java/NearlySaid.java";
    private static final String[] FACE = {
        "int row(int,int,int)", "int set(int,int,int)", "int copy(int,int,int,int,int)", "int drop(int)",
        "int feed(int)", "int street()", "int fault()", "int undo()",
        "int minutes(int)", "int talk(int,int)", "int hush(int,int)", "int bars(int,int)", "int letDown(int)",
        "int house(int,int)", "int stand(int)",
        "int ahead(int,int)", "int pond(int,int)", "int over()", "int full(int)", "int most(int,int,int)",
        "int hushes(int,int,int)", "int spares(int,int)", "int catches(int,int)", "int from(int,int)",
        "int loud(int,int)", "int dry()", "int lag(int)", "int who(int,int,int,int,int,int)",
        "int silent(int,int,int,int)", "long hushed(int,int,int)", "int drawn(int,int,int)", "int image(int)",
        "int restore(int)",
        "int kind(int)", "int as(int,int)", "int ask(int,int)", "int trace(int)", "int count(int)", "int status()",
    };
    private static final Due due = new Due("FaceTest");

    public static void main(String[] args) throws Exception {
        constants();
        members();
        classesInside();
        words();
        due.end();
    }

    private static void holds(String what, boolean is) {
        due.is(what, is ? 1 : 0, 1);
    }

    private static void constants() {
        due.is("NONE", NearlySaid.NONE, -1000000);
        due.is("BAD", NearlySaid.BAD, -1000001);
        due.is("STATE", NearlySaid.STATE, -1000002);
        due.is("FULL", NearlySaid.FULL, -1000003);
    }

    private static String signature(Method m) {
        String types = Arrays.stream(m.getParameterTypes()).map(Class::getName).collect(Collectors.joining(","));
        return m.getReturnType().getName() + " " + m.getName() + "(" + types + ")";
    }

    private static void members() {
        Set<String> face = new TreeSet<>();
        Set<String> names = new TreeSet<>();
        for (Method m : NearlySaid.class.getDeclaredMethods()) {
            if (Modifier.isPublic(m.getModifiers())) {
                face.add(signature(m));
                names.add(m.getName());
            }
        }
        due.is("methods of the face", face.size(), FACE.length);
        for (String one : FACE) {
            holds(one, face.contains(one));
        }
        for (Method m : NearlySaid.class.getDeclaredMethods()) {
            boolean isPublic = Modifier.isPublic(m.getModifiers());
            holds(m + " is public or private", isPublic || Modifier.isPrivate(m.getModifiers()));
            holds(m + " bears a name of its own", isPublic || !names.contains(m.getName()));
            holds(m + " takes at most seven", m.getParameterCount() <= 7);
        }
        Set<String> open = Set.of("NONE", "BAD", "STATE", "FULL");
        for (Field f : NearlySaid.class.getDeclaredFields()) {
            holds(f + " is private", open.contains(f.getName()) || Modifier.isPrivate(f.getModifiers()));
            holds(f + " is final, if static", !Modifier.isStatic(f.getModifiers()) || Modifier.isFinal(f.getModifiers()));
        }
        Constructor<?>[] made = NearlySaid.class.getDeclaredConstructors();
        due.is("constructors", made.length, 1);
        holds("it is public, and takes nothing", Modifier.isPublic(made[0].getModifiers()) && made[0].getParameterCount() == 0);
        holds("the class is public and final", (NearlySaid.class.getModifiers() & (Modifier.PUBLIC | Modifier.FINAL)) == (Modifier.PUBLIC | Modifier.FINAL));
    }

    private static void classesInside() {
        Class<?>[] inside = NearlySaid.class.getDeclaredClasses();
        holds("at most twelve classes", inside.length < 12);
        for (Class<?> c : inside) {
            int open = Modifier.PUBLIC | Modifier.PROTECTED;
            holds(c + " is static, not public", Modifier.isStatic(c.getModifiers()) && (c.getModifiers() & open) == 0);
            holds(c + " has at most twenty fields", c.getDeclaredFields().length <= 20);
        }
    }

    private static void words() throws Exception {
        String source = Files.readString(Path.of(SOURCE));
        String code = source.replaceAll("(?s)/\\*.*?\\*/", "").replaceAll("//[^\n]*", "");
        Matcher banned = Pattern.compile("\\b(throw|throws|try|catch|finally|synchronized|assert|package|protected|"
            + "volatile|native|Object|Exception|Random|Thread|float|double)\\b|->|::|Exact\\b").matcher(code);
        holds("a word that is ruled out: " + (banned.find() ? banned.group() : ""), !banned.reset().find());
        Matcher imports = Pattern.compile("import ([\\w.*]+);").matcher(code);
        while (imports.find()) {
            due.is("import " + imports.group(1), imports.group(1).equals("java.util.Arrays") ? 1 : 0, 1);
        }
        holds("the source is of signs 1 to 127", source.chars().allMatch(c -> c > 0 && c < 128));
    }
}
