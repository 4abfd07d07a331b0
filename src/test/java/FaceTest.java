import java.lang.reflect.Constructor;
import java.lang.reflect.Executable;
import java.lang.reflect.Field;
import java.lang.reflect.Method;
import java.lang.reflect.Modifier;
import java.util.Arrays;
import java.util.TreeSet;

/** The public face: just what the document shows, and nothing shared by two objects. */
public final class FaceTest {
    private static final String[] METHODS = {
        "int knot(int)", "boolean street(int, int, int, int, int)", "boolean close(int, int)",
        "boolean sight(int, int)", "int look(int, int, int)", "int price(int, int)",
        "int allow(int)", "int say(int, int)", "int hush()", "int said(int)", "int walk(int, int)",
        "int walked(int)", "boolean start(int, int)", "int go(int)", "int route(int)",
        "int routed(int)", "int tell()", "int holds()", "int slip(int)", "int best(int, int, int)",
        "int keep()", "int still(int)", "int count(int)"
    };
    private static final Due due = new Due();

    public static void main(String[] args) {
        theClass();
        theConstants();
        theConstructors();
        theMethods();
        classesInside();
        nothingShared();
        due.end();
    }

    private static void theClass() {
        int modifiers = WaysTold.class.getModifiers();
        due.yes("face: public", Modifier.isPublic(modifiers));
        due.yes("face: final", Modifier.isFinal(modifiers));
        due.same("face: no package", WaysTold.class.getPackageName().length(), 0);
        due.text("face: no class above it", WaysTold.class.getSuperclass().getName(), "java.lang.Object");
        due.same("face: no interfaces", WaysTold.class.getInterfaces().length, 0);
    }

    private static void theConstants() {
        due.same("face: NONE", WaysTold.NONE, -1);
        for (Field field : WaysTold.class.getDeclaredFields()) {
            int modifiers = field.getModifiers();
            if (field.getName().equals("NONE")) {
                due.same("face: NONE's modifiers", modifiers,
                    Modifier.PUBLIC | Modifier.STATIC | Modifier.FINAL);
                due.text("face: NONE's type", field.getType().getName(), "int");
            } else {
                due.yes("face: private " + field.getName(), Modifier.isPrivate(modifiers));
            }
            due.yes("face: what is static is final: " + field.getName(),
                !Modifier.isStatic(modifiers) || Modifier.isFinal(modifiers));
        }
    }

    private static void theConstructors() {
        Constructor<?>[] all = WaysTold.class.getDeclaredConstructors();
        due.same("face: constructors", all.length, 1);
        due.yes("face: a public one", Modifier.isPublic(all[0].getModifiers()));
        due.same("face: without parameters", all[0].getParameterCount(), 0);
        thrown(all[0]);
    }

    private static void theMethods() {
        TreeSet<String> shown = new TreeSet<>();
        TreeSet<String> names = new TreeSet<>();
        for (Method method : WaysTold.class.getDeclaredMethods()) {
            if (!Modifier.isPrivate(method.getModifiers())) {
                due.same("face: public, not static: " + method.getName(), method.getModifiers(), Modifier.PUBLIC);
                thrown(method);
                shown.add(inWords(method));
                names.add(method.getName());
            }
        }
        due.text("face: methods", shown.toString(), new TreeSet<>(Arrays.asList(METHODS)).toString());
        for (Method method : WaysTold.class.getDeclaredMethods()) {
            due.yes("face: a private method has a name of its own: " + method.getName(),
                Modifier.isPublic(method.getModifiers()) || !names.contains(method.getName()));
        }
    }

    private static void thrown(Executable one) {
        due.same("face: nothing is thrown by " + one.getName(), one.getExceptionTypes().length, 0);
    }

    private static String inWords(Method method) {
        StringBuilder text = new StringBuilder();
        text.append(method.getReturnType().getName()).append(' ').append(method.getName()).append('(');
        for (Class<?> type : method.getParameterTypes()) {
            text.append(text.charAt(text.length() - 1) == '(' ? "" : ", ").append(type.getName());
        }
        return text.append(')').toString();
    }

    private static void classesInside() {
        for (Class<?> inside : WaysTold.class.getDeclaredClasses()) {
            int modifiers = inside.getModifiers();
            due.yes("face: static " + inside.getName(), Modifier.isStatic(modifiers));
            due.no("face: hidden " + inside.getName(),
                Modifier.isPublic(modifiers) || Modifier.isProtected(modifiers));
        }
    }

    /** "A new object": new also if another one has been used. */
    private static void nothingShared() {
        WaysTold before = new WaysTold();
        WaysTold used = new WaysTold();
        Edges.town(used);
        due.same("1: in the town best() finds a way", used.best(0, 1, 8) == WaysTold.NONE ? 0 : 1, 1);
        WaysTold behind = new WaysTold();
        for (WaysTold x : new WaysTold[] {before, behind}) {
            int[] counts = {0, 0, 0, 0, 0, 511, WaysTold.NONE};
            for (int what = 0; what < counts.length; what++) {
                due.same("1: count(" + what + ") of a new object", x.count(what), counts[what]);
            }
            due.same("1: no route", x.routed(0), WaysTold.NONE);
            due.same("1: no walk", x.walked(0), WaysTold.NONE);
            due.same("1: nothing is kept", x.still(0), WaysTold.NONE);
            due.same("2: the first knot", x.knot(1), 0);
            due.yes("3: its exits are free", x.street(0, 0, 0, 1, 0));
            due.same("7: the price at first", x.price(0, 0), 1);
        }
    }
}
