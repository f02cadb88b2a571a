import java.lang.reflect.Constructor;
import java.lang.reflect.Field;
import java.lang.reflect.Method;
import java.lang.reflect.Modifier;
import java.nio.file.Files;
import java.nio.file.Path;
import java.util.Arrays;
import java.util.List;
import java.util.Set;
import java.util.TreeSet;
import java.util.regex.Matcher;
import java.util.regex.Pattern;

/** The face of the document, and those rules of LANGUAGE.md that can be read off the class and its text. */
public final class LanguageTest {
    private static final Path SOURCE = Path.of("src/main/java/BeardPass.java");

    private static final List<String> FACE = List.of(
        "int feed(long,long,long)", "int land()", "int journey()", "int person(int,int)", "int town(int,int)",
        "boolean go(int,int)", "int forge(int,int)", "boolean shave(int)", "int week()", "boolean undo()",
        "int judged(int)", "int reach(int)", "int frontiers(int,int)", "int when(int,int)", "int round(int)",
        "int need(int,int)", "int guide(int,int)", "int cheapest(int)", "int debt(int,int)", "int trapped()",
        "int shaven(int)", "int meeting(int)", "int speakers(int,int)", "int strict()", "int alike()",
        "boolean see(int,boolean)", "int lengths(int)", "int ask()", "int stricter(int,int)",
        "int rests(int,int,int)", "int years(int,int,int)", "boolean mark(int,boolean)", "int count(int)");

    public static void main(String[] args) throws Exception {
        face();
        inner();
        text(Files.readString(SOURCE));
        Probe.end("LanguageTest");
    }

    private static void face() {
        Set<String> open = new TreeSet<>();
        Set<String> names = new TreeSet<>();
        for (Method method : BeardPass.class.getDeclaredMethods()) {
            if (!Modifier.isPrivate(method.getModifiers())) {
                open.add(told(method));
                names.add(method.getName());
            }
        }
        holds("the face is " + FACE + ", not " + open, open.equals(new TreeSet<>(FACE)));
        for (Method method : BeardPass.class.getDeclaredMethods()) {
            boolean hidden = Modifier.isPrivate(method.getModifiers());
            holds("a private method bears the name " + method.getName(), !hidden || !names.contains(method.getName()));
        }
        for (Field field : BeardPass.class.getDeclaredFields()) {
            boolean hidden = Modifier.isPrivate(field.getModifiers());
            holds("an open field " + field.getName(), hidden || field.getName().equals("NONE"));
        }
        for (Constructor<?> constructor : BeardPass.class.getDeclaredConstructors()) {
            holds("one public constructor", Modifier.isPublic(constructor.getModifiers()) && constructor.getParameterCount() == 0);
        }
        holds("the class is final", Modifier.isFinal(BeardPass.class.getModifiers()));
    }

    private static String told(Method method) {
        String types = String.join(",", Arrays.stream(method.getParameterTypes()).map(Class::getSimpleName).toList());
        return method.getReturnType().getSimpleName() + " " + method.getName() + "(" + types + ")";
    }

    private static void inner() {
        Class<?>[] classes = BeardPass.class.getDeclaredClasses();
        holds("some twelve classes, not " + classes.length, classes.length <= 12);
        for (Class<?> inner : classes) {
            holds(inner + " is static", Modifier.isStatic(inner.getModifiers()) && !Modifier.isPublic(inner.getModifiers()));
            int own = 0;
            for (Field field : inner.getDeclaredFields()) {
                boolean fixed = Modifier.isStatic(field.getModifiers());
                holds("static and not final: " + field, !fixed || Modifier.isFinal(field.getModifiers()));
                own += fixed ? 0 : 1;
            }
            holds("some twenty fields in " + inner, own <= 20);
            for (Method method : inner.getDeclaredMethods()) {
                holds("seven parameters at most: " + method, method.getParameterCount() <= 7);
                boolean ofFace = FACE.stream().anyMatch(told -> told.contains(" " + method.getName() + "("));
                holds("a name of the face inside: " + method, !ofFace);
            }
        }
    }

    private static void text(String source) {
        String code = source.replaceAll("(?s)/\\*.*?\\*/", "").replaceAll("//[^\n]*", "");
        for (String word : List.of("->", "::", "try", "catch", "finally", "synchronized", "assert", "package", "instanceof",
                "System.out", "Random", "Thread", "hashCode", "toString", "ordinal", "Exact", "getMessage", "var")) {
            Matcher found = Pattern.compile("(?<!\\w)" + Pattern.quote(word) + "(?!\\w)").matcher(code);
            holds("the text holds " + word, !found.find());
        }
        Set<String> imports = new TreeSet<>();
        Matcher imported = Pattern.compile("import ([\\w.]+);").matcher(code);
        while (imported.find()) {
            imports.add(imported.group(1));
        }
        holds("imports " + imports, imports.equals(Set.of("java.util.Arrays", "java.util.NoSuchElementException")));
        for (char sign : source.toCharArray()) {
            if (sign != 10 && (sign < 32 || sign > 126)) {
                holds("a sign " + (int) sign, false);
            }
        }
        lines(code);
    }

    private static void lines(String code) {
        int start = -1;
        String[] lines = code.split("\n");
        for (int i = 0; i < lines.length; i++) {
            // a call makes no object but the exception that the document asks for
            if (lines[i].contains("new ") && !lines[i].matches(".*(final .* = new .*|(past|marks)\\[i\\] = new .*|throw new .*)")) {
                holds("an object is made: " + lines[i], false);
            }
            if (lines[i].matches("( {4}| {8})[\\w\\[\\]. ]+\\(.*\\{")) {
                start = i;
            } else if (start >= 0 && lines[i].matches("( {4}| {8})\\}")) {
                holds("some sixty lines: " + lines[start], i - start <= 60);
                start = -1;
            }
        }
    }

    private static void holds(String what, boolean so) {
        Probe.same(what, so, true);
    }
}
