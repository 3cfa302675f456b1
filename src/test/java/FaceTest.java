import java.io.IOException;
import java.lang.reflect.Constructor;
import java.lang.reflect.Field;
import java.lang.reflect.Method;
import java.lang.reflect.Modifier;
import java.nio.file.Files;
import java.nio.file.Path;
import java.util.ArrayList;
import java.util.HashSet;
import java.util.List;
import java.util.Set;
import java.util.TreeSet;
import java.util.regex.Matcher;
import java.util.regex.Pattern;

/** The public face as the document has it, and the rules of LANGUAGE.md that can be seen from outside. */
public final class FaceTest {
    private static final Check CHECK = new Check();
    private static final String[] FACE = {
        "int feed(int,int,int,int,int)", "int end(int)", "int out(int)", "int back()", "int story()",
        "int poke(int,int)", "int peek(int)", "int jump(int)", "int call(int,int,int,int)", "int leave()",
        "int local(int,int)", "int push(int)", "int pop()", "int frame(int,int)", "long print()",
        "int save(boolean)", "int restore()", "int why(int)", "int chunk(int,int)", "int write()", "int cut(int)",
        "int load()", "int keep()", "int undo()", "int bound(int)", "int restart()", "int told(int)"};
    private static final List<String> CONSTANTS = List.of("BAD", "NONE", "FULL", "STATE");

    public static void main(String[] args) throws IOException {
        constants();
        methods();
        members();
        nested();
        text();
        CHECK.finish();
    }

    private static void constants() {
        CHECK.due("BAD", ZSaves.BAD, -1);
        CHECK.due("NONE", ZSaves.NONE, -2);
        CHECK.due("FULL", ZSaves.FULL, -3);
        CHECK.due("STATE", ZSaves.STATE, -4);
    }

    private static String form(Method m) {
        StringBuilder text = new StringBuilder(m.getReturnType() + " " + m.getName() + "(");
        for (int i = 0; i < m.getParameterTypes().length; i++) {
            text.append(i == 0 ? "" : ",").append(m.getParameterTypes()[i]);
        }
        return text.append(")").toString();
    }

    private static void methods() {
        Set<String> due = new TreeSet<>(List.of(FACE));
        Set<String> has = new TreeSet<>();
        Set<String> names = new HashSet<>();
        for (Method m : ZSaves.class.getDeclaredMethods()) {
            if (Modifier.isPublic(m.getModifiers())) {
                has.add(form(m));
                names.add(m.getName());
            }
        }
        CHECK.holds("the public methods are those of the document: " + has, has.equals(due));
        for (Class<?> c : allClasses()) {
            for (Method m : c.getDeclaredMethods()) {
                boolean publicOne = c == ZSaves.class && Modifier.isPublic(m.getModifiers());
                CHECK.holds(c + " has another " + m.getName(), publicOne || !names.contains(m.getName()));
                CHECK.holds(c + "." + m.getName() + " takes at most seven", m.getParameterCount() <= 7);
            }
        }
    }

    private static List<Class<?>> allClasses() {
        List<Class<?>> all = new ArrayList<>(List.of(ZSaves.class.getDeclaredClasses()));
        all.add(ZSaves.class);
        return all;
    }

    private static void members() {
        CHECK.holds("public and final", (ZSaves.class.getModifiers() & (Modifier.PUBLIC | Modifier.FINAL))
            == (Modifier.PUBLIC | Modifier.FINAL));
        for (Field f : ZSaves.class.getDeclaredFields()) {
            boolean isPrivate = Modifier.isPrivate(f.getModifiers());
            CHECK.holds(f + " is private or a constant of the face", isPrivate || CONSTANTS.contains(f.getName()));
        }
        for (Method m : ZSaves.class.getDeclaredMethods()) {
            int kind = m.getModifiers() & (Modifier.PUBLIC | Modifier.PRIVATE);
            CHECK.holds(m + " is public or private", kind != 0);
        }
        Constructor<?>[] made = ZSaves.class.getDeclaredConstructors();
        CHECK.holds("one public constructor", made.length == 1 && Modifier.isPublic(made[0].getModifiers()));
    }

    private static void nested() {
        CHECK.holds("at most twelve classes", allClasses().size() <= 12);
        for (Class<?> c : allClasses()) {
            int own = 0;
            for (Field f : c.getDeclaredFields()) {
                boolean isStatic = Modifier.isStatic(f.getModifiers());
                own += isStatic ? 0 : 1;
                CHECK.holds(f + " is final if static", !isStatic || Modifier.isFinal(f.getModifiers()));
            }
            CHECK.holds(c + " has at most twenty fields", own <= 20);
            CHECK.holds(c + " is static", c == ZSaves.class || Modifier.isStatic(c.getModifiers()));
        }
    }

    private static void text() throws IOException {
        String text = Files.readString(Path.of("src/main/java/ZSaves.java"))
            .replaceAll("(?s)/\\*.*?\\*/", "").replaceAll("//.*", "");
        Matcher banned = Pattern.compile(
            "\\b(throw|throws|try|catch|synchronized|assert|import|package|System\\.(?!arraycopy)\\w+|\\w+Exact)\\b|->|::").matcher(text);
        CHECK.holds("nothing that the language leaves out", !banned.find());
        for (int i = 0; i < text.length(); i++) {
            CHECK.holds("characters 0 to 255 alone", text.charAt(i) <= 255);
        }
    }
}
