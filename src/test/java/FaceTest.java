import java.lang.reflect.Constructor;
import java.lang.reflect.Field;
import java.lang.reflect.Method;
import java.lang.reflect.Modifier;
import java.util.ArrayList;
import java.util.List;
import java.util.TreeSet;

/** The public face of the document, to the letter, and nothing beside it. */
public final class FaceTest {
    private static final String NSE = "java.util.NoSuchElementException";
    private static final String IAE = "java.lang.IllegalArgumentException";
    private static final String ISE = "java.lang.IllegalStateException";

    private static final List<String> FACE = List.of(
            "int contacts(int) [" + IAE + ", " + ISE + "]",
            "int wire(int,int,int) [" + NSE + ", " + ISE + "]",
            "int ring(int,int) [" + NSE + ", " + ISE + "]",
            "boolean notch(int,int,boolean) [" + NSE + ", " + ISE + "]",
            "int fill(int,int) [" + NSE + ", " + ISE + "]",
            "void plug(int,int,int) [" + NSE + ", " + IAE + ", " + ISE + "]",
            "int unplug(int,int) [" + NSE + ", " + ISE + "]",
            "boolean reflects(boolean) [" + ISE + "]",
            "int pins(int,int) [" + NSE + ", " + IAE + ", " + ISE + "]",
            "boolean pin(int,int,boolean) [" + NSE + ", " + ISE + "]",
            "void lugs(int,int,int) [" + NSE + ", " + ISE + "]",
            "int rule(int) [" + NSE + ", " + ISE + "]",
            "int path(int) [" + NSE + ", " + ISE + "]",
            "int set(int,int,int) [" + NSE + ", " + ISE + "]",
            "int key(int) [" + NSE + ", " + ISE + "]",
            "int back(int) [" + NSE + ", " + ISE + "]",
            "int image(int) [" + NSE + "]",
            "int at(int,int) [" + NSE + "]",
            "int undo() [" + ISE + "]",
            "int period(int) [" + IAE + ", " + ISE + "]",
            "int fixed() []",
            "int open() [" + ISE + "]",
            "int close() [" + ISE + "]",
            "int logged(int,int,int) [" + NSE + ", " + IAE + "]",
            "int replay(int) [" + NSE + ", " + ISE + "]",
            "int count(int) [" + IAE + "]");

    private static final Check CHECK = new Check("FaceTest");

    public static void main(String[] args) {
        methods();
        fields();
        constructors();
        classesInside();
        CHECK.end();
    }

    private static String written(Method method) {
        List<String> takes = new ArrayList<>();
        for (Class<?> type : method.getParameterTypes()) {
            takes.add(type.getName());
        }
        List<String> refuses = new ArrayList<>();
        for (Class<?> type : method.getExceptionTypes()) {
            refuses.add(type.getName());
        }
        return method.getReturnType().getName() + " " + method.getName() + "(" + String.join(",", takes) + ") " + refuses;
    }

    private static void methods() {
        TreeSet<String> shown = new TreeSet<>();
        TreeSet<String> shownNames = new TreeSet<>();
        TreeSet<String> hiddenNames = new TreeSet<>();
        for (Method method : RotorBench.class.getDeclaredMethods()) {
            if (Modifier.isPrivate(method.getModifiers())) {
                hiddenNames.add(method.getName());
            } else {
                CHECK.is(method + " is public, of the object", method.getModifiers(), Modifier.PUBLIC);
                shown.add(written(method));
                shownNames.add(method.getName());
            }
        }
        for (String due : FACE) {
            CHECK.is("the face has " + due, shown.contains(due), true);
        }
        CHECK.is("methods of the face " + shown, shown.size(), FACE.size());
        hiddenNames.retainAll(shownNames);
        CHECK.is("private methods with a public name " + hiddenNames, hiddenNames.size(), 0);
    }

    private static void fields() {
        int shown = 0;
        for (Field field : RotorBench.class.getDeclaredFields()) {
            int modifiers = field.getModifiers();
            if (!Modifier.isPrivate(modifiers)) {
                shown++;
                CHECK.is(field + " is NONE", field.getName().equals("NONE"), true);
                CHECK.is(field + " is a constant", modifiers, Modifier.PUBLIC | Modifier.STATIC | Modifier.FINAL);
            }
        }
        CHECK.is("constants of the face", shown, 1);
        CHECK.is("NONE", RotorBench.NONE, -1);
    }

    private static void constructors() {
        Constructor<?>[] all = RotorBench.class.getDeclaredConstructors();
        CHECK.is("constructors", all.length, 1);
        CHECK.is("the constructor is public", all[0].getModifiers(), Modifier.PUBLIC);
        CHECK.is("the constructor takes nothing", all[0].getParameterCount(), 0);
        CHECK.is("the class is public and final", RotorBench.class.getModifiers(), Modifier.PUBLIC | Modifier.FINAL);
    }

    private static void classesInside() {
        Class<?>[] inside = RotorBench.class.getDeclaredClasses();
        CHECK.is("the file has at most twelve classes", inside.length + 1 <= 12, true);
        for (Class<?> one : inside) {
            int seen = one.getModifiers() & (Modifier.PUBLIC | Modifier.PROTECTED);
            CHECK.is(one + " is hidden", seen, 0);
            CHECK.is(one + " is static", Modifier.isStatic(one.getModifiers()), true);
        }
    }
}
