import java.lang.reflect.Constructor;
import java.lang.reflect.Field;
import java.lang.reflect.Method;
import java.lang.reflect.Modifier;
import java.nio.file.Files;
import java.nio.file.Path;
import java.util.Arrays;
import java.util.Set;
import java.util.TreeSet;
import java.util.regex.Pattern;

/** The public face of the document, and rules of LANGUAGE.md that the file and its classes show. */
public final class FaceTest {
    private static final String[] FACE = {
        "public int begin()", "public int put(int,int,int)", "public int commit(int)", "public int undo(int)",
        "public int get(int)", "public int seen(int,int)", "public int sync()", "public int checkpoint()",
        "public int cut(int,int)", "public int start()", "public int at(int,int)", "public boolean sound(int)",
        "public boolean poke(int,int,int)", "public int count(int)", "public int holder(int)", "public int format()"};
    /** Patterns of what LANGUAGE.md leaves out and this class could fall into. */
    private static final String[] FORBIDDEN = {"\\bthrows?\\b", "\\btry\\b", "\\bcatch\\b", "\\bsynchronized\\b",
        "\\bassert\\b", "\\bimport\\b", "\\bpackage\\b", "\\bprotected\\b", "\\bSystem\\.(?!arraycopy)", "->", "::",
        "Exact\\("};
    private static final Checks checks = new Checks();

    public static void main(String[] args) throws Exception {
        face();
        constants();
        members(StoreLog3.class);
        for (Class<?> inside : StoreLog3.class.getDeclaredClasses()) {
            checks.due(inside + " is static", Modifier.isStatic(inside.getModifiers()), true);
            checks.due(inside + " is not public", Modifier.isPublic(inside.getModifiers()), false);
            staticFields(inside);
        }
        checks.due("few classes", StoreLog3.class.getDeclaredClasses().length <= 12, true);
        words(Files.readString(Path.of("src/main/java/StoreLog3.java")));
        checks.finish();
    }

    private static void face() {
        Set<String> got = new TreeSet<>();
        for (Method method : StoreLog3.class.getDeclaredMethods()) {
            if (!Modifier.isPrivate(method.getModifiers())) {
                got.add(method.toString().replace("StoreLog3.", ""));
            }
        }
        Set<String> want = new TreeSet<>(Arrays.asList(FACE));
        checks.due("the face is " + got + ", that", got.equals(want), true);
        checks.due("final", Modifier.isFinal(StoreLog3.class.getModifiers()), true);
        Constructor<?>[] constructors = StoreLog3.class.getDeclaredConstructors();
        checks.due("one constructor", constructors.length, 1);
        checks.due("of an int", constructors[0].toString().equals("public StoreLog3(int)"), true);
    }

    private static void constants() {
        checks.due("NONE", StoreLog3.NONE, -1);
        checks.due("FULL", StoreLog3.FULL, -2);
        checks.due("DOWN", StoreLog3.DOWN, -3);
        checks.due("BROKEN", StoreLog3.BROKEN, -4);
    }

    private static void members(Class<?> type) {
        Set<String> visible = new TreeSet<>();
        for (Field field : type.getDeclaredFields()) {
            if (!Modifier.isPrivate(field.getModifiers())) {
                visible.add(field.getName());
            }
        }
        checks.due("visible fields are " + visible + ", that",
                visible.equals(new TreeSet<>(Arrays.asList("NONE", "FULL", "DOWN", "BROKEN"))), true);
        staticFields(type);
        Set<String> open = new TreeSet<>();
        for (Method method : type.getDeclaredMethods()) {
            if (Modifier.isPublic(method.getModifiers())) {
                open.add(method.getName());
            }
        }
        for (Method method : type.getDeclaredMethods()) {
            if (Modifier.isPrivate(method.getModifiers())) {
                checks.due(method + " has a name of its own", open.contains(method.getName()), false);
            }
        }
    }

    private static void staticFields(Class<?> type) {
        for (Field field : type.getDeclaredFields()) {
            if (Modifier.isStatic(field.getModifiers())) {
                checks.due(field + " is final", Modifier.isFinal(field.getModifiers()), true);
            }
        }
    }

    private static void words(String text) {
        String code = text.replaceAll("(?s)/\\*.*?\\*/", "").replaceAll("//[^\n]*", "");
        for (String pattern : FORBIDDEN) {
            checks.due(pattern + " is found", Pattern.compile(pattern).matcher(code).find(), false);
        }
    }
}
