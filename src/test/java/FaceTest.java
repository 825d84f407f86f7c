import java.io.IOException;
import java.lang.reflect.Constructor;
import java.lang.reflect.Field;
import java.lang.reflect.Method;
import java.lang.reflect.Modifier;
import java.nio.charset.StandardCharsets;
import java.nio.file.Files;
import java.nio.file.Path;
import java.util.Arrays;
import java.util.Set;
import java.util.TreeSet;
import java.util.regex.Pattern;

/** The public face of the document, and the rules of LANGUAGE.md that can be seen from outside. */
public final class FaceTest {
    private static final String[] METHODS = {
        "int thing(int,int,int,int,int)", "int place(int,int,int,int)", "int gone(int)", "int breaks(int,int,int)",
        "int rule(int,int)", "int told(int,int)", "int at(int,int,int)", "int count(int)", "int sieve(int,int)",
        "long least(int,int,int)", "int meeting(int,int)", "long share(int,int,int,int)", "int best(int,int,int)",
        "int burn(int,int,int,int,int)", "int dot(int,int,int,int)", "int dotted(int,int)", "int notice(int,int)",
        "int answer(int,int,int)", "int noticed(int,int)", "int keep(int)", "int differs(int)"};
    private static final String[] CONSTANTS = {"NONE", "UNKNOWN", "OUTSIDE", "NOT", "FULL"};
    private static final String[] BANNED = {
        "\\bthrow\\b", "\\btry\\b", "\\bcatch\\b", "\\bfinally\\b", "\\bassert\\b", "\\bsynchronized\\b", "\\bimport\\b",
        "\\bpackage\\b", "->", "::", "Exact\\(", "\\bfloat\\b", "\\bdouble\\b", "\\bprotected\\b", "\\bSystem\\b"};

    public static void main(String[] args) throws IOException {
        constants();
        methods();
        fields();
        classesInside();
        text(Path.of(args.length > 0 ? args[0] : ".", "src/main/java/MeetingsAbove.java"));
        Due.end();
    }

    private static void constants() {
        Due.is("NONE", MeetingsAbove.NONE, -1);
        Due.is("UNKNOWN", MeetingsAbove.UNKNOWN, -100001);
        Due.is("OUTSIDE", MeetingsAbove.OUTSIDE, -100002);
        Due.is("NOT", MeetingsAbove.NOT, -100003);
        Due.is("FULL", MeetingsAbove.FULL, -100004);
    }

    private static void methods() {
        int flags = MeetingsAbove.class.getModifiers();
        Due.holds("the class is public and final", Modifier.isPublic(flags) && Modifier.isFinal(flags));
        Set<String> seen = new TreeSet<>();
        Set<String> names = new TreeSet<>();
        for (Method m : MeetingsAbove.class.getDeclaredMethods()) {
            if (Modifier.isPublic(m.getModifiers())) {
                Due.holds(m + " belongs to an object", !Modifier.isStatic(m.getModifiers()));
                seen.add(signature(m));
                names.add(m.getName());
            }
        }
        Due.holds("the methods are the document's: " + seen, seen.equals(new TreeSet<>(Arrays.asList(METHODS))));
        for (Method m : MeetingsAbove.class.getDeclaredMethods()) {
            Due.holds(m + " is public or private", (m.getModifiers() & (Modifier.PUBLIC | Modifier.PRIVATE)) != 0);
            Due.holds(m + " has a name of its own", Modifier.isPublic(m.getModifiers()) || !names.contains(m.getName()));
            Due.holds(m + " has seven parameters at most", m.getParameterCount() <= 7);
        }
        Constructor<?>[] made = MeetingsAbove.class.getDeclaredConstructors();
        Due.holds("one public constructor without parameters",
            made.length == 1 && made[0].getParameterCount() == 0 && Modifier.isPublic(made[0].getModifiers()));
    }

    private static String signature(Method m) {
        StringBuilder text = new StringBuilder(m.getReturnType().getName() + " " + m.getName() + "(");
        for (Class<?> type : m.getParameterTypes()) {
            text.append(text.charAt(text.length() - 1) == '(' ? "" : ",").append(type.getName());
        }
        return text.append(")").toString();
    }

    private static void fields() {
        int own = 0;
        for (Field f : MeetingsAbove.class.getDeclaredFields()) {
            int flags = f.getModifiers();
            boolean isConstant = Arrays.asList(CONSTANTS).contains(f.getName());
            Due.holds(f + " is public only if it is the document's", Modifier.isPublic(flags) == isConstant);
            Due.holds(f + " is public or private", (flags & (Modifier.PUBLIC | Modifier.PRIVATE)) != 0);
            Due.holds(f + " is final if static", !Modifier.isStatic(flags) || Modifier.isFinal(flags));
            own += Modifier.isStatic(flags) ? 0 : 1;
        }
        Due.holds("twenty fields at most", own <= 20);
    }

    private static void classesInside() {
        Class<?>[] inside = MeetingsAbove.class.getDeclaredClasses();
        Due.holds("twelve classes at most", inside.length < 12);
        for (Class<?> c : inside) {
            int flags = c.getModifiers();
            Due.holds(c + " is static", Modifier.isStatic(flags));
            Due.holds(c + " is not public", !Modifier.isPublic(flags) && !Modifier.isProtected(flags));
            Due.holds(c + " has no classes inside", c.getDeclaredClasses().length == 0);
            for (Field f : c.getDeclaredFields()) {
                Due.holds(f + " is final if static",
                    !Modifier.isStatic(f.getModifiers()) || Modifier.isFinal(f.getModifiers()));
            }
        }
    }

    private static void text(Path file) throws IOException {
        String code = Files.readString(file, StandardCharsets.UTF_8)
            .replaceAll("(?s)/\\*.*?\\*/", " ").replaceAll("//[^\n]*", " ");
        for (String banned : BANNED) {
            Due.holds("no " + banned + " in the class", !Pattern.compile(banned).matcher(code).find());
        }
        Due.holds("characters 0 to 255 alone", code.chars().allMatch(c -> c <= 255));
    }
}
