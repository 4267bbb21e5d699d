import java.io.IOException;
import java.lang.reflect.Constructor;
import java.lang.reflect.Field;
import java.lang.reflect.Method;
import java.lang.reflect.Modifier;
import java.nio.file.Files;
import java.nio.file.Path;
import java.util.Arrays;
import java.util.HashSet;
import java.util.Map;
import java.util.Set;
import java.util.regex.Matcher;
import java.util.regex.Pattern;

/** The face is the document's and nothing else is visible; the file keeps to what LANGUAGE.md rules out by words. */
public final class FaceTest {
    private static final String[] FACE = {
        "int row(int, int, int)", "int set(int, int, int)", "int copy(int, int, int, int, int)", "int drop(int)",
        "int feed(int)", "int wall()", "int fault()", "int undo()", "int minutes(int)", "int pull(int, int)",
        "int letGo()", "int place(int, int)", "int step(int, int)", "int ant(int, int)", "int pulls(int)",
        "int ahead(int, int)", "int band(int, int)", "int arrives(int)", "int leads(int)", "int meet(int, int)",
        "int fast(int, int)", "int pullFor(int, int)", "int order(int, int, int)", "int half(int)",
        "int rest(int, int)", "int passed(int, int)", "int who(int, int, int, int, int)", "int which(int, int, int)",
        "int inches(int)", "long wind(int, int, int, int)", "int drawn(int, int, int)", "int image(int)",
        "int restore(int)", "int kind(int)", "int as(int, int)", "int ask(int, int)", "int trace(int)",
        "int count(int)", "int status()",
    };
    private static final Map<String, Integer> CONSTANTS =
            Map.of("NONE", -1000000, "BAD", -1000001, "STATE", -1000002, "FULL", -1000003);
    private static final String[] RULED_OUT = {
        "throw", "try", "catch", "synchronized", "assert", "import", "package", "Object", "new Random", "Math\\.random",
        "System\\.(?!arraycopy)", "->", "::", "toString", "hashCode", "protected", "Exact\\(", "\"",
    };

    public static void main(String[] args) throws IOException, ReflectiveOperationException {
        theClass();
        methods();
        fields();
        classesInside();
        words();
        Check.end("FaceTest");
    }

    private static void theClass() {
        Check.due("face: public and final", AntBand.class.getModifiers(), Modifier.PUBLIC | Modifier.FINAL);
        Check.due("face: no package", AntBand.class.getPackageName().length(), 0);
        Check.due("face: it extends nothing", AntBand.class.getSuperclass() == Object.class ? 1 : 0, 1);
        Check.due("face: it implements nothing", AntBand.class.getInterfaces().length, 0);
        Check.due("face: one constructor", AntBand.class.getDeclaredConstructors().length, 1);
        for (Constructor<?> one : AntBand.class.getDeclaredConstructors()) {
            Check.due("face: " + one, one.getModifiers(), Modifier.PUBLIC);
            Check.due("face: it takes nothing", one.getParameterCount(), 0);
        }
    }

    private static void methods() {
        Set<String> due = new HashSet<>(Arrays.asList(FACE));
        Set<String> publicNames = new HashSet<>();
        for (Method one : AntBand.class.getDeclaredMethods()) {
            if (Modifier.isPublic(one.getModifiers())) {
                publicNames.add(one.getName());
                String args = Arrays.toString(one.getParameterTypes()).replace("[", "(").replace("]", ")");
                String told = one.getReturnType() + " " + one.getName() + args;
                Check.due("face: " + told, due.remove(told) ? 1 : 0, 1);
                Check.due("face: public alone, " + told, one.getModifiers(), Modifier.PUBLIC);
                Check.due("face: throws nothing, " + told, one.getExceptionTypes().length, 0);
            }
        }
        Check.due("face: missing " + due, due.size(), 0);
        for (Method one : AntBand.class.getDeclaredMethods()) {
            if (!Modifier.isPublic(one.getModifiers())) {
                Check.due("1: private " + one, Modifier.isPrivate(one.getModifiers()) ? 1 : 0, 1);
                Check.due("1: own name " + one, publicNames.contains(one.getName()) ? 1 : 0, 0);
            }
        }
        for (Class<?> inside : AntBand.class.getDeclaredClasses()) {
            for (Method one : inside.getDeclaredMethods()) {
                Check.due("1: own name " + one, publicNames.contains(one.getName()) ? 1 : 0, 0);
                Check.due("11: parameters of " + one, one.getParameterCount() <= 7 ? 1 : 0, 1);
            }
        }
    }

    private static void fields() throws ReflectiveOperationException {
        int constants = 0;
        for (Field one : AntBand.class.getDeclaredFields()) {
            if (Modifier.isPublic(one.getModifiers())) {
                constants++;
                Check.due("face: constant " + one, one.getModifiers(), Modifier.PUBLIC | Modifier.STATIC | Modifier.FINAL);
                Check.due("face: an int, " + one, one.getType() == int.class ? 1 : 0, 1);
                Check.due("face: value of " + one, one.getInt(null), CONSTANTS.getOrDefault(one.getName(), 0));
            } else {
                Check.due("1: private " + one, Modifier.isPrivate(one.getModifiers()) ? 1 : 0, 1);
            }
            staticIsFinal(one);
        }
        Check.due("face: as many constants as told", constants, CONSTANTS.size());
    }

    private static void staticIsFinal(Field one) {
        boolean good = !Modifier.isStatic(one.getModifiers()) || Modifier.isFinal(one.getModifiers());
        Check.due("5: final " + one, good ? 1 : 0, 1);
    }

    private static void classesInside() {
        Class<?>[] inside = AntBand.class.getDeclaredClasses();
        Check.due("11: classes", inside.length + 1 <= 12 ? 1 : 0, 1);
        for (Class<?> one : inside) {
            Check.due("2: static " + one, Modifier.isStatic(one.getModifiers()) ? 1 : 0, 1);
            Check.due("1: not public " + one, one.getModifiers() & (Modifier.PUBLIC | Modifier.PROTECTED), 0);
            int many = 0;
            for (Field field : one.getDeclaredFields()) {
                staticIsFinal(field);
                many += Modifier.isStatic(field.getModifiers()) ? 0 : 1;
            }
            Check.due("11: fields of " + one, many <= 20 ? 1 : 0, 1);
        }
    }

    private static void words() throws IOException {
        String text = Files.readString(Path.of("src/main/java/AntBand.java"));
        String code = text.replaceAll("(?s)/\\*.*?\\*/", "").replaceAll("//[^\n]*", "");
        for (String word : RULED_OUT) {
            boolean isWord = Character.isLetter(word.charAt(0)) && Character.isLetter(word.charAt(word.length() - 1));
            Matcher found = Pattern.compile(isWord ? "\\b" + word + "\\b" : word).matcher(code);
            Check.due("ruled out: " + word, found.find() ? 1 : 0, 0);
        }
        Check.due("signs 1 to 127", text.chars().allMatch(sign -> sign > 0 && sign < 128) ? 1 : 0, 1);
    }
}
