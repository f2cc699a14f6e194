import java.io.IOException;
import java.lang.reflect.Constructor;
import java.lang.reflect.Field;
import java.lang.reflect.Method;
import java.lang.reflect.Modifier;
import java.nio.file.Files;
import java.nio.file.Path;
import java.util.ArrayList;
import java.util.Arrays;
import java.util.List;
import java.util.TreeSet;

/** The public face, and the rules of the language that can be seen in the class or in its text. */
public final class FaceTest {
    private static final Path SOURCE = Path.of("src/main/java/Rollbacker.java");
    private static final String[] FACE = {
        "int addScript() IllegalStateException",
        "int addOperation(int,char,int,int) IndexOutOfBoundsException,IllegalArgumentException,IllegalStateException",
        "int addBox(int,int,int,int,int,int,int) "
            + "IllegalArgumentException,IndexOutOfBoundsException,IllegalStateException",
        "int push(int,int,int) NoSuchElementException,IllegalArgumentException,IllegalStateException",
        "int start(int) IllegalArgumentException,IllegalStateException",
        "int press(int,int) IndexOutOfBoundsException,IllegalArgumentException",
        "int setDelay(int,int,int) IndexOutOfBoundsException,IllegalArgumentException",
        "int lose(int,int,int) IndexOutOfBoundsException,IllegalArgumentException",
        "int tick(int) IllegalStateException,IllegalArgumentException",
        "int done(int) IndexOutOfBoundsException",
        "int owed(int) IndexOutOfBoundsException",
        "int confirmed(int) IndexOutOfBoundsException",
        "int known(int,int) IndexOutOfBoundsException",
        "int stalls(int) IndexOutOfBoundsException",
        "int takenBack(int) IndexOutOfBoundsException",
        "int flying() ",
        "int field(int,int,int) IndexOutOfBoundsException,NoSuchElementException,IllegalArgumentException",
        "int boxes(int) IndexOutOfBoundsException",
        "int hash(int,int) IndexOutOfBoundsException,NoSuchElementException",
        "int loneHash(int) IllegalStateException,NoSuchElementException",
        "int hashWith(int,int,int,int) IllegalStateException,IllegalArgumentException,NoSuchElementException",
        "int cheat(int,int,int,int) IndexOutOfBoundsException,NoSuchElementException,IllegalArgumentException",
        "int shown(int) IndexOutOfBoundsException",
        "int cancelled(int) IndexOutOfBoundsException",
        "int effects(int,int) IndexOutOfBoundsException,NoSuchElementException",
        "int effectAt(int,int,int) IndexOutOfBoundsException,NoSuchElementException",
        "int difference(int,int) IndexOutOfBoundsException,NoSuchElementException",
        "int differentPlace(int,int) IndexOutOfBoundsException,NoSuchElementException",
        "int differentField(int,int) IndexOutOfBoundsException,NoSuchElementException",
        "long steps() ",
        "float waste() NoSuchElementException",
        "boolean isSound() ",
    };
    private static final String[] FORBIDDEN = {
        "try", "catch", "finally", "synchronized", "assert", "instanceof", "volatile", "transient",
        "native", "protected", "var", "out", "nanoTime", "currentTimeMillis", "Random", "Thread", "record",
        "\\w*Exact", "hashCode", "toString", "equals", "Object", "strictfp", "static \\{", "double", "yield",
    };

    public static void main(String[] args) throws IOException {
        List<Class<?>> inside = Arrays.asList(Rollbacker.class.getDeclaredClasses());
        face();
        classes(inside);
        text(Files.readAllLines(SOURCE));
        Check.end("FaceTest");
    }

    private static void face() {
        int modifiers = Rollbacker.class.getModifiers();
        Check.holds("public and final", Modifier.isPublic(modifiers) && Modifier.isFinal(modifiers));
        Constructor<?>[] constructors = Rollbacker.class.getDeclaredConstructors();
        Check.gives("constructors", () -> constructors.length, 1);
        Check.holds("without parameters", constructors[0].getParameterCount() == 0);
        Check.holds("a public one", Modifier.isPublic(constructors[0].getModifiers()));
        TreeSet<String> open = new TreeSet<>();
        for (Method method : Rollbacker.class.getDeclaredMethods()) {
            if (!Modifier.isPrivate(method.getModifiers())) {
                open.add(told(method));
                Check.holds(method + " public", Modifier.isPublic(method.getModifiers()));
                Check.holds(method + " of an object", !Modifier.isStatic(method.getModifiers()));
            }
        }
        Check.gives("the face", () -> open.toString(), new TreeSet<>(Arrays.asList(FACE)).toString());
        for (Field field : Rollbacker.class.getDeclaredFields()) {
            Check.holds(field + " private", Modifier.isPrivate(field.getModifiers()));
        }
    }

    private static String told(Method method) {
        List<String> types = new ArrayList<>();
        for (Class<?> type : method.getParameterTypes()) {
            types.add(type.getSimpleName());
        }
        List<String> thrown = new ArrayList<>();
        for (Class<?> type : method.getExceptionTypes()) {
            thrown.add(type.getSimpleName());
        }
        return method.getReturnType().getSimpleName() + " " + method.getName() + "(" + String.join(",", types) + ") "
                + String.join(",", thrown);
    }

    private static void classes(List<Class<?>> inside) {
        Check.holds("at most 12 classes", inside.size() < 12);
        TreeSet<String> names = new TreeSet<>();
        for (String row : FACE) {
            names.add(row.substring(row.indexOf(' ') + 1, row.indexOf('(')));
        }
        List<Class<?>> all = new ArrayList<>(inside);
        all.add(Rollbacker.class);
        for (Class<?> type : all) {
            int fields = 0;
            for (Field field : type.getDeclaredFields()) {
                boolean isStatic = Modifier.isStatic(field.getModifiers());
                fields += isStatic ? 0 : 1;
                Check.holds(field + " final", !isStatic || Modifier.isFinal(field.getModifiers()));
            }
            int count = fields;
            Check.holds(type + " has at most 20 fields: " + count, count <= 20);
            for (Method method : type.getDeclaredMethods()) {
                Check.holds(method + " at most 7 parameters", method.getParameterCount() <= 7);
                boolean isHidden = type != Rollbacker.class || Modifier.isPrivate(method.getModifiers());
                Check.holds(method + " bears a name of the face", !isHidden || !names.contains(method.getName()));
            }
        }
        for (Class<?> type : inside) {
            int modifiers = type.getModifiers();
            Check.holds(type + " static", Modifier.isStatic(modifiers));
            Check.holds(type + " private", Modifier.isPrivate(modifiers));
            Check.gives(type + " without classes", () -> type.getDeclaredClasses().length, 0);
        }
    }

    private static void text(List<String> lines) {
        int begin = 0;
        for (int i = 0; i < lines.size(); i++) {
            int number = i + 1;
            String line = lines.get(i);
            String code = line.replaceAll("//.*", "").replaceAll("^\\s*(/\\*\\*|\\*).*", "");
            for (String word : FORBIDDEN) {
                boolean found = code.matches(".*(^|\\W)(" + word + ")(\\W|$).*");
                Check.holds("line " + number + " has " + word, !found);
            }
            Check.holds("line " + number + " has a lambda", !code.contains("->") && !code.contains("::"));
            Check.holds("line " + number + " has a sign of its own", line.chars().allMatch(c -> c >= 32 && c < 127));
            Check.holds("line " + number + " is long", line.length() <= 120);
            if (line.startsWith("import ")) {
                Check.holds("line " + number, line.equals("import java.util.Arrays;")
                        || line.equals("import java.util.NoSuchElementException;"));
            }
            Check.holds("line " + number + " has a package", !line.startsWith("package "));
            if (line.isBlank()) {
                begin = i;
            }
            int length = i - begin;
            boolean isMethodEnd = line.equals("    }") || line.equals("        }");
            Check.holds("line " + number + " ends a method of " + length, !isMethodEnd || length <= 60);
        }
    }
}
