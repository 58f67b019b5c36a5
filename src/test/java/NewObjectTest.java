/** Promise 1, and the face of the class. */
public final class NewObjectTest {
    public static void main(String[] args) {
        holdsNothing();
        hasNoProgram();
        facesAreAsTold();
        Probe.finish();
    }

    private static void holdsNothing() {
        QuietChecker x = new QuietChecker();
        for (int what = 0; what <= 6; what++) {
            Probe.due("count(" + what + ") of a new object", x.count(what), 0);
        }
        for (int what = 7; what <= 9; what++) {
            Probe.due("count(" + what + ") of a new object", x.count(what), QuietChecker.NONE);
        }
        Probe.due("the text of a new object", x.count(10), 0);
    }

    private static void hasNoProgram() {
        QuietChecker x = new QuietChecker();
        Probe.throwsState("put", () -> x.put(0, 0, 1));
        Probe.throwsState("run", () -> x.run(1));
        Probe.throwsState("run of wrong fuel", () -> x.run(-1));
        Probe.throwsState("twin", () -> x.twin(1));
        Probe.throwsState("value", () -> x.value(0, 0));
        Probe.throwsState("note", () -> x.note(0));
        Probe.throwsIndex("letter", () -> x.letter(0, false, 0));
        Probe.throwsIndex("letter of a function", () -> x.letter(0, true, 0));
    }

    private static void facesAreAsTold() {
        Probe.due("NONE", QuietChecker.NONE, -1);
        Class<?> face = QuietChecker.class;
        int open = java.lang.reflect.Modifier.PRIVATE;
        int methods = 0;
        for (java.lang.reflect.Method m : face.getDeclaredMethods()) {
            methods += (m.getModifiers() & open) == 0 && !m.isSynthetic() ? 1 : 0;
        }
        int fields = 0;
        for (java.lang.reflect.Field f : face.getDeclaredFields()) {
            fields += (f.getModifiers() & open) == 0 && !f.isSynthetic() ? 1 : 0;
        }
        Probe.due("methods that can be seen", methods, 9);
        Probe.due("fields that can be seen", fields, 1);
        Probe.due("constructors", face.getDeclaredConstructors().length, 1);
    }
}
