import java.io.IOException;
import java.lang.reflect.Constructor;
import java.lang.reflect.Field;
import java.lang.reflect.Member;
import java.lang.reflect.Method;
import java.lang.reflect.Modifier;
import java.nio.file.Files;
import java.nio.file.Path;
import java.util.Arrays;
import java.util.Set;
import java.util.TreeSet;

/** The public face, member by member, and the rules of LANGUAGE.md that a test can see. */
public final class FaceTest {
    private static final Set<String> FACE = new TreeSet<>(Set.of("ClosedUntil()", "int NONE", "int LATE",
        "int feed(int,int,int,int,int)", "int text(int)", "int day(int,int,int)", "int date(int,int)",
        "int plus(int,int)", "int piece(int,int)", "int person(int,int)", "int closure(int,int)", "int term(int,int)",
        "int ends(int,int)", "int opens(int,int)", "int allOf(int,int)", "int reason(int,int)", "int closedBy(int,int)",
        "int sooner(int,int,int)", "int open(int,int)", "int next(int,int)", "int listed(int,int)",
        "int mustGo(int,int,int)", "int best(int,int,int)", "int openWithout(int,int,int)", "int review(int,int,int)",
        "int lift(int,int)", "int died(int,int)", "int put(int,int)", "int undo()", "boolean keep(int,boolean)",
        "int count(int)"));
    private static final String[] FORBIDDEN = {"->", "::", "synchronized", "assert ", "finally", "catch", "Exact(",
        "@Override", "double ", "float ", "var ", "System.out", "java.util.*", "Object "};

    private static final Checks CHECKS = new Checks();
    private static final Set<String> FOUND = new TreeSet<>();
    private static final Set<String> FACE_METHODS = new TreeSet<>();

    public static void main(String[] args) throws IOException {
        Class<?> face = ClosedUntil.class;
        due("the class is public and final",
            Modifier.isPublic(face.getModifiers()) && Modifier.isFinal(face.getModifiers()));
        CHECKS.due("NONE", ClosedUntil.NONE, -1);
        CHECKS.due("LATE", ClosedUntil.LATE, 219145);
        faceMembers(face);
        due("the face is " + FOUND, FOUND.equals(FACE));
        Method sooner = method(face, "sooner");
        due("sooner names its exception", sooner != null && sooner.getExceptionTypes().length == 1
            && sooner.getExceptionTypes()[0] == java.util.NoSuchElementException.class);
        noNameTwice(face);
        classesInside(face);
        source();
        CHECKS.finish();
    }

    private static void due(String what, boolean holds) {
        CHECKS.due(what, holds, true);
    }

    private static void faceMembers(Class<?> face) {
        for (Constructor<?> c : face.getDeclaredConstructors()) {
            take(c, "ClosedUntil" + types(c.getParameterTypes()));
        }
        for (Field f : face.getDeclaredFields()) {
            take(f, f.getType() + " " + f.getName());
            if (Modifier.isStatic(f.getModifiers())) {
                due(f.getName() + " is final", Modifier.isFinal(f.getModifiers()));
            }
        }
        for (Method m : face.getDeclaredMethods()) {
            take(m, m.getReturnType() + " " + m.getName() + types(m.getParameterTypes()));
        }
    }

    private static void take(Member member, String text) {
        if (member.isSynthetic()) {
            return;
        }
        if (Modifier.isPublic(member.getModifiers())) {
            FOUND.add(text);
            if (member instanceof Method) {
                FACE_METHODS.add(member.getName());
            }
        } else {
            due(text + " is private", Modifier.isPrivate(member.getModifiers()));
        }
    }

    private static String types(Class<?>[] types) {
        return Arrays.toString(types).replace(" ", "").replace('[', '(').replace(']', ')');
    }

    private static Method method(Class<?> face, String name) {
        for (Method m : face.getDeclaredMethods()) {
            if (m.getName().equals(name)) {
                return m;
            }
        }
        return null;
    }

    private static void noNameTwice(Class<?> face) {
        for (Method m : face.getDeclaredMethods()) {
            boolean isPrivate = !Modifier.isPublic(m.getModifiers());
            due("no private method bears the name " + m.getName(), !isPrivate || !FACE_METHODS.contains(m.getName()));
        }
    }

    private static void classesInside(Class<?> face) {
        Class<?>[] inside = face.getDeclaredClasses();
        due("at most twelve classes", inside.length < 12);
        for (Class<?> c : inside) {
            int modifiers = c.getModifiers();
            due(c + " is static and not public", Modifier.isStatic(modifiers) && !Modifier.isPublic(modifiers)
                && !Modifier.isProtected(modifiers));
            noNameTwice(c);
            int fields = 0;
            for (Field f : c.getDeclaredFields()) {
                boolean isStatic = Modifier.isStatic(f.getModifiers());
                fields += isStatic ? 0 : 1;
                due(c + "." + f.getName() + " is final if static", !isStatic || Modifier.isFinal(f.getModifiers()));
            }
            due(c + " has at most twenty fields", fields <= 20);
        }
    }

    private static void source() throws IOException {
        String text = Files.readString(Path.of("src/main/java/ClosedUntil.java"));
        due("one import", text.split("\nimport ", -1).length == 1
            && text.startsWith("import java.util.NoSuchElementException;"));
        String code = text.replaceAll("(?s)/\\*.*?\\*/", "").replaceAll("//[^\n]*", "");
        for (String word : FORBIDDEN) {
            due("the program has no \"" + word + "\"", !code.contains(word));
        }
        due("the program has only signs 1 to 127", text.chars().allMatch(c -> c > 0 && c < 128));
    }
}
