import java.io.IOException;
import java.lang.management.ManagementFactory;
import java.lang.reflect.Constructor;
import java.lang.reflect.Field;
import java.lang.reflect.Method;
import java.lang.reflect.Modifier;
import java.nio.file.Files;
import java.nio.file.Path;
import java.util.Set;
import java.util.TreeSet;
import java.util.regex.Matcher;
import java.util.regex.Pattern;

/** The public face is that of the document and no more, and calls take little room. */
public final class FaceTests {
    private static final Path DOCUMENT = Path.of("../shared/DOC.md");
    private static final long MOST_BYTES = 100_000;
    private static int wrong = 0;

    public static void main(String[] args) throws IOException {
        methods();
        fieldsAndConstructors();
        room();
        System.out.println(wrong == 0 ? "the face is as told" : wrong + " faults of the face");
        System.exit(wrong == 0 ? 0 : 1);
    }

    private static void check(boolean good, String what) {
        if (!good) {
            wrong++;
            System.out.println(what);
        }
    }

    private static String told(Method m) {
        StringBuilder text = new StringBuilder();
        text.append(m.getReturnType().getSimpleName()).append(' ').append(m.getName()).append('(');
        for (int i = 0; i < m.getParameterCount(); i++) {
            text.append(i == 0 ? "" : ", ").append(m.getParameterTypes()[i].getSimpleName());
        }
        text.append(')');
        for (Class<?> thrown : m.getExceptionTypes()) {
            text.append(" throws ").append(thrown.getSimpleName());
        }
        return text.toString();
    }

    /** The methods as the document tells them, without the names of their parameters. */
    private static Set<String> documentFace() throws IOException {
        Set<String> face = new TreeSet<>();
        Pattern method = Pattern.compile("    public ((?:int|boolean) \\w+\\(.*\\).*);");
        Matcher found = method.matcher(Files.readString(DOCUMENT));
        while (found.find()) {
            face.add(found.group(1).replaceAll("(int|boolean) \\w+(?=[,)])", "$1"));
        }
        check(face.size() == 19, "of the document's methods " + face.size() + " were found");
        return face;
    }

    private static void methods() throws IOException {
        Set<String> shown = new TreeSet<>();
        Set<String> shownNames = new TreeSet<>();
        for (Method m : WicketBoard.class.getDeclaredMethods()) {
            if (!Modifier.isPrivate(m.getModifiers())) {
                shown.add(told(m));
                shownNames.add(m.getName());
                check(m.getModifiers() == Modifier.PUBLIC, m.getName() + " is not just public");
            }
        }
        check(shown.equals(documentFace()), "the methods are " + shown + ", due are " + documentFace());
        for (Method m : WicketBoard.class.getDeclaredMethods()) {
            boolean hidden = Modifier.isPrivate(m.getModifiers());
            check(!hidden || !shownNames.contains(m.getName()), m.getName() + " is also private");
        }
    }

    private static void fieldsAndConstructors() {
        for (Field f : WicketBoard.class.getDeclaredFields()) {
            boolean none = f.getName().equals("NONE") && f.getType() == int.class;
            int constant = Modifier.PUBLIC | Modifier.STATIC | Modifier.FINAL;
            check(f.getModifiers() == constant == none, "field " + f.getName());
            check(none || Modifier.isPrivate(f.getModifiers()), "field " + f.getName() + " is not private");
        }
        Constructor<?>[] all = WicketBoard.class.getDeclaredConstructors();
        check(all.length == 1 && all[0].getParameterCount() == 0, "there is another constructor");
        check(all[0].getModifiers() == Modifier.PUBLIC, "the constructor is not public");
        check(WicketBoard.class.getModifiers() == (Modifier.PUBLIC | Modifier.FINAL), "the class is not public and final");
        check(WicketBoard.NONE == -1, "NONE is not -1");
    }

    private static long allocated() {
        return ((com.sun.management.ThreadMXBean) ManagementFactory.getThreadMXBean())
                .getThreadAllocatedBytes(Thread.currentThread().getId());
    }

    /** The dearest run: all rows full, and then nothing but the dearest calls. */
    private static void room() {
        dearRun();
        long before = allocated();
        dearRun();
        long taken = allocated() - before;
        check(taken < MOST_BYTES, "a run of 512 calls takes " + taken + " bytes");
    }

    private static void dearRun() {
        WicketBoard x = new WicketBoard();
        for (int u = 0; u < 20; u++) {
            x.umpire(u % 3, u % 5, 1 + u % 4, 1 << u % 12);
        }
        for (int g = 0; g < 8; g++) {
            x.game(g % 2, g % 3, g, g + 1, 1 + g % 4);
        }
        for (int i = 0; i < 96; i++) {
            x.send();
            x.off(x.seat(i % 16));
            x.feed(i, i, i, i, i);
            x.rules();
        }
    }
}
