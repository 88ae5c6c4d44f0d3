import java.io.IOException;
import java.lang.reflect.Constructor;
import java.lang.reflect.Field;
import java.lang.reflect.Method;
import java.lang.reflect.Modifier;
import java.nio.file.Files;
import java.nio.file.Path;
import java.util.Arrays;
import java.util.Set;
import java.util.TreeSet;
import java.util.regex.Pattern;

/** The class has the document's face and no more, and its file keeps off what LANGUAGE.md leaves out. */
public final class FaceTest {
    private static final Set<String> METHODS = Set.of(
        "public void init()", "public int mount()", "public int put(int,int)", "public int remove(int)",
        "public boolean has(int)", "public int get(int)", "public int size()", "public boolean rot(int,int)",
        "public int scrub()", "public boolean arm(int)", "public boolean crashed()", "public int condition(int)",
        "public int word(int,int)", "public int needed(int)", "public int head()", "public int acts()");
    private static final String[] LEFT_OUT = {
        "->", "::", "\\bfinally\\b", "\\bsynchronized\\b", "\\bassert\\b", "\\bpackage\\b", "\\bthrow\\b",
        "\\btry\\b", "\\bstatic \\{", "\\bSystem\\.(?!arraycopy)", "\\bThread\\b", "\\bRandom\\b",
        "\\bimport (?!java\\.util\\.Arrays;)"};

    private final Checks checks = new Checks("FaceTest");

    public static void main(String[] args) throws IOException {
        FaceTest test = new FaceTest();
        test.classItself();
        test.methods();
        test.fields();
        test.constructor();
        test.classesInside();
        if (args.length > 0) {
            test.file(Files.readString(Path.of(args[0])));
        }
        test.checks.end();
    }

    private void classItself() {
        int modifiers = BitRotStore.class.getModifiers();
        checks.holds("the class is public and final", Modifier.isPublic(modifiers) && Modifier.isFinal(modifiers));
        checks.holds("it extends nothing", BitRotStore.class.getSuperclass() == Object.class);
        checks.due("interfaces", BitRotStore.class.getInterfaces().length, 0);
    }

    private void methods() {
        Set<String> face = new TreeSet<>();
        Set<String> publicNames = new TreeSet<>();
        for (Method method : BitRotStore.class.getDeclaredMethods()) {
            if (!Modifier.isPrivate(method.getModifiers())) {
                face.add(method.toString().replace("BitRotStore.", ""));
                publicNames.add(method.getName());
            }
        }
        checks.holds("the methods that others see are those of the document: " + face, face.equals(METHODS));
        for (Method method : BitRotStore.class.getDeclaredMethods()) {
            boolean hidden = Modifier.isPrivate(method.getModifiers());
            checks.holds("no private method is named " + method.getName(),
                !hidden || !publicNames.contains(method.getName()));
        }
    }

    private void fields() {
        checks.due("CRASHED", BitRotStore.CRASHED, -2);
        checks.due("FULL", BitRotStore.FULL, -1);
        checks.due("BAD", BitRotStore.BAD, -3);
        Set<String> seen = new TreeSet<>();
        for (Field field : BitRotStore.class.getDeclaredFields()) {
            if (!Modifier.isPrivate(field.getModifiers())) {
                seen.add(field.toString().replace("BitRotStore.", ""));
            }
        }
        checks.holds("the fields that others see are the three constants: " + seen, seen.equals(Set.of(
            "public static final int CRASHED", "public static final int FULL", "public static final int BAD")));
    }

    private void constructor() {
        Constructor<?>[] all = BitRotStore.class.getDeclaredConstructors();
        checks.due("constructors", all.length, 1);
        checks.holds("it is public and takes two ints", Modifier.isPublic(all[0].getModifiers())
            && Arrays.equals(all[0].getParameterTypes(), new Class<?>[] {int.class, int.class}));
    }

    private void classesInside() {
        for (Class<?> inside : BitRotStore.class.getDeclaredClasses()) {
            int modifiers = inside.getModifiers();
            checks.holds(inside + " is static and not public", Modifier.isStatic(modifiers)
                && !Modifier.isPublic(modifiers) && !Modifier.isProtected(modifiers));
        }
    }

    private void file(String text) {
        String code = text.replaceAll("(?s)/\\*.*?\\*/", "").replaceAll("//[^\n]*", "");
        for (String pattern : LEFT_OUT) {
            checks.holds("the file is without " + pattern, !Pattern.compile(pattern).matcher(code).find());
        }
    }
}
