import java.lang.reflect.Executable;
import java.lang.reflect.Field;
import java.lang.reflect.Modifier;
import java.nio.file.Files;
import java.nio.file.Path;
import java.util.ArrayList;
import java.util.Arrays;
import java.util.List;
import java.util.Set;
import java.util.regex.Matcher;
import java.util.regex.Pattern;

/** The rules of ../shared/LANGUAGE.md that can be seen in the source or in the compiled class. */
public final class LanguageTests {
    private static final Path SOURCE = Path.of("src/main/java/WicketBoard.java");
    private static final Set<String> IMPORTS = Set.of("java.util.NoSuchElementException", "java.util.ArrayList",
            "java.util.List", "java.util.Arrays", "java.util.Iterator");
    private static final Set<String> THROWN = Set.of("IllegalStateException", "IllegalArgumentException",
            "IndexOutOfBoundsException", "ArithmeticException", "UnsupportedOperationException",
            "NoSuchElementException", "RuntimeException");
    private static final Set<String> OF_SYSTEM = Set.of("arraycopy");
    private static final Set<String> OF_ARRAYS = Set.of("copyOf", "copyOfRange", "fill");
    private static final Set<String> OF_LIST = Set.of("of");
    private static final Set<Class<?>> CONSTANTS = Set.of(int.class, long.class, boolean.class, char.class,
            String.class, int[].class, long[].class, char[].class, byte[].class);
    private static int wrong = 0;

    public static void main(String[] args) throws Exception {
        String source = Files.readString(SOURCE);
        String code = bare(source);
        signs(source);
        library(code);
        words(code);
        exceptions(code);
        methodLengths(code);
        List<Class<?>> classes = new ArrayList<>(List.of(WicketBoard.class));
        classes.addAll(Arrays.asList(WicketBoard.class.getDeclaredClasses()));
        check(classes.size() <= 12, "11", classes.size() + " classes");
        for (Class<?> one : classes) {
            membersOf(one);
        }
        System.out.println(wrong == 0 ? "the rules of the language are kept" : wrong + " faults of the language");
        System.exit(wrong == 0 ? 0 : 1);
    }

    private static void check(boolean good, String rule, String what) {
        if (!good) {
            wrong++;
            System.out.println("rule " + rule + ": " + what);
        }
    }

    /** The code without comments, and with every text and sign emptied. */
    private static String bare(String source) {
        return source.replaceAll("(?s)/\\*.*?\\*/", "")
                .replaceAll("//[^\n]*", "")
                .replaceAll("\"(?:[^\"\\\\\n]|\\\\.)*\"", "\"\"")
                .replaceAll("'(?:[^'\\\\]|\\\\.)'", "' '");
    }

    private static List<String> all(String code, String pattern) {
        List<String> found = new ArrayList<>();
        Matcher matcher = Pattern.compile(pattern).matcher(code);
        while (matcher.find()) {
            found.add(matcher.group(matcher.groupCount()));
        }
        return found;
    }

    private static void signs(String source) {
        check(source.chars().allMatch(c -> c == '\n' || c >= 32 && c < 127), "4", "a sign that is not plain");
        check(!source.contains("\npackage "), "1", "a package line");
    }

    /** "The library: only what stands here." */
    private static void library(String code) {
        for (String name : all(code, "import (?:static )?([\\w.*]+);")) {
            check(IMPORTS.contains(name), "4", "import of " + name);
        }
        for (String member : all(code, "\\b(?:Integer|Long|Math)\\.(\\w+\\b *\\(?)")) {
            boolean call = member.endsWith("(") && !member.replaceAll("\\W", "").endsWith("Exact");
            check(call, "4", "of Integer, Long and Math there are functions alone, not " + member);
        }
        for (String member : all(code, "\\bSystem\\.(\\w+)")) {
            check(OF_SYSTEM.contains(member), "4", "System." + member);
        }
        for (String member : all(code, "\\bArrays\\.(\\w+)")) {
            check(OF_ARRAYS.contains(member), "4", "Arrays." + member);
        }
        for (String member : all(code, "\\bList\\.(\\w+)")) {
            check(OF_LIST.contains(member), "4", "List." + member);
        }
        String others = "\\b((?:String|StringBuilder|ArrayList|Character|Byte|Short|Boolean|Double|Float|Objects|Object)\\.\\w+)";
        check(all(code, others).isEmpty(), "4", "use of " + all(code, others));
        check(all(code, "\\b(java[x]?\\.\\w+)").size() == all(code, "import (\\S+)").size(), "4", "a library by its whole name");
    }

    private static void words(String code) {
        for (String word : List.of("->", "::")) {
            check(!code.contains(word), "2", "there is a " + word);
        }
        String barred = "\\b(finally|synchronized|assert|volatile|native|hashCode|getMessage|getClass|wait|notify|var)\\b";
        check(all(code, barred).isEmpty(), "6", "there is " + all(code, barred));
        check(all(code, "\\bstatic\\s*(\\{)").isEmpty(), "5", "a static initialiser block");
        check(!Pattern.compile("\"\"\\s*\\+|\\+\\s*\"\"").matcher(code).find(), "10", "texts are joined by +");
    }

    /** Nothing is caught at all, so no answer can rest on what the machine throws. */
    private static void exceptions(String code) {
        check(all(code, "\\b(catch|try)\\b").isEmpty(), "6", "something is caught");
        int throwsSeen = all(code, "\\b(throw)\\b").size();
        List<String> made = all(code, "\\bthrow new (\\w+)\\((?:\"\")?\\);");
        check(made.size() == throwsSeen, "6", "a throw that is not 'throw new E()' or of a written text");
        check(THROWN.containsAll(made), "6", "thrown are " + made);
    }

    /** A method begins where a line with '(' ends in '{', as deep as members of a class stand. */
    private static void methodLengths(String code) {
        String[] lines = code.split("\n");
        for (int i = 0; i < lines.length; i++) {
            Matcher head = Pattern.compile("( {4}| {8})\\w.*\\(.*\\{").matcher(lines[i]);
            boolean method = head.matches() && !lines[i].matches(" *(if|for|while|switch|do|return)\\b.*");
            int end = i;
            while (method && end < lines.length && !lines[end].equals(head.group(1) + "}")) {
                end++;
            }
            check(end - i <= 60, "11", "a method of " + (end - i) + " lines: " + lines[i].trim());
        }
    }

    private static void membersOf(Class<?> one) {
        int fields = 0;
        for (Field field : one.getDeclaredFields()) {
            boolean isStatic = Modifier.isStatic(field.getModifiers());
            fields += isStatic ? 0 : 1;
            boolean constant = Modifier.isFinal(field.getModifiers()) && CONSTANTS.contains(field.getType());
            check(!isStatic || constant, "5", "the static field " + field);
        }
        check(fields <= 20, "11", one + " has " + fields + " fields");
        List<Executable> calls = new ArrayList<>(Arrays.asList(one.getDeclaredMethods()));
        calls.addAll(Arrays.asList(one.getDeclaredConstructors()));
        for (Executable call : calls) {
            check(call.getParameterCount() <= 7, "11", call + " has too many parameters");
        }
        int modifiers = one.getModifiers();
        boolean inside = Modifier.isStatic(modifiers) && !Modifier.isPublic(modifiers) && !Modifier.isProtected(modifiers);
        check(one == WicketBoard.class || inside, "1", one + " is not private or package-visible and static");
    }
}
