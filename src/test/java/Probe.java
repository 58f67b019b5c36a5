/** Helps a test: feeds texts, compares answers, and keeps count of those that are wrong. */
final class Probe {
    /** A call that answers nothing, or whose answer does not matter. */
    interface Call {
        void make();
    }

    private static int wrong = 0;

    private Probe() {
    }

    static void due(String what, long got, long want) {
        if (got != want) {
            wrong++;
            System.out.println(what + " answered " + got + ", due is " + want);
        }
    }

    static void due(String what, boolean got, boolean want) {
        due(what, got ? 1 : 0, want ? 1 : 0);
    }

    static void throwsState(String what, Call call) {
        dueToThrow(what, call, IllegalStateException.class);
    }

    static void throwsArgument(String what, Call call) {
        dueToThrow(what, call, IllegalArgumentException.class);
    }

    static void throwsIndex(String what, Call call) {
        dueToThrow(what, call, IndexOutOfBoundsException.class);
    }

    private static void dueToThrow(String what, Call call, Class<?> kind) {
        Class<?> thrown = null;
        try {
            call.make();
        } catch (RuntimeException e) {
            thrown = e.getClass();
        }
        if (thrown != kind) {
            wrong++;
            System.out.println(what + " threw " + thrown + ", due is " + kind);
        }
    }

    /** Feeds a text in pieces of eight characters. */
    static void feed(QuietChecker x, String text) {
        for (int from = 0; from < text.length(); from += 8) {
            String piece = text.substring(from, Math.min(text.length(), from + 8));
            due("feed of \"" + piece + "\"", x.feed(packed(piece), piece.length()), true);
        }
    }

    static long packed(String piece) {
        long chars = 0;
        for (char c : piece.toCharArray()) {
            chars = chars << 8 | c;
        }
        return chars;
    }

    /** A new object that has read this text, whatever faults the text has. */
    static QuietChecker reading(String text) {
        QuietChecker x = new QuietChecker();
        feed(x, text);
        x.check();
        return x;
    }

    /** A new object that has read this text and run it, with fuel for all that it can do. */
    static QuietChecker running(String text) {
        QuietChecker x = reading(text);
        x.run(20000);
        return x;
    }

    /** An @ in the text marks the place of the fault that is due; it is not fed. */
    static void dueFault(int number, String marked) {
        int place = marked.indexOf('@');
        String text = marked.replace("@", "");
        QuietChecker x = new QuietChecker();
        feed(x, text);
        due("check of " + text, x.check(), number + 16L * Math.max(place, 0));
        due("the fault of " + text, x.count(5), number);
        due("whether there is a program of " + text, x.count(6), number == 0 || number > 5 ? 1 : 0);
    }

    static void dueNoFault(String text) {
        dueFault(0, text);
    }

    /** What a variable (the declaration of this number) has when the text was run. */
    static void dueValue(int k, String text, int want) {
        due("value(" + k + ", 0) behind " + text, running(text).value(k, 0), want);
    }

    static void dueNotes(String text, QuietChecker x, int... notes) {
        due("number of notes of " + text, x.count(7), notes.length);
        for (int i = 0; i < notes.length && i < x.count(7); i++) {
            due("note " + i + " of " + text, x.note(i), notes[i]);
        }
    }

    /** All that can be asked of an object whose declarations and notes are few, as one text. */
    static String state(QuietChecker x) {
        StringBuilder all = new StringBuilder();
        for (int what = 0; what <= 10; what++) {
            all.append("count ").append(x.count(what)).append(' ');
        }
        for (int k = 0; k < x.count(0); k++) {
            all.append(x.letter(k, false, 0));
            for (int i = 0; i < 8; i++) {
                int at = i;
                int which = k;
                all.append(' ').append(answered(() -> x.value(which, at)));
            }
        }
        for (int i = 0; i < x.count(7); i++) {
            all.append(" note ").append(x.note(i));
        }
        return all.toString();
    }

    private static String answered(java.util.function.IntSupplier call) {
        try {
            return String.valueOf(call.getAsInt());
        } catch (IndexOutOfBoundsException | IllegalStateException e) {
            return e.getClass().getSimpleName();
        }
    }

    /** That a call left all as it was. */
    static void dueState(String call, QuietChecker x, String before) {
        String now = state(x);
        if (!now.equals(before)) {
            wrong++;
            System.out.println("behind " + call + " there is " + now + ", due is " + before);
        }
    }

    static String repeated(String piece, int times) {
        return piece.repeat(times);
    }

    static void finish() {
        System.out.println(wrong == 0 ? "all answers are as due" : wrong + " answers are not as due");
        if (wrong != 0) {
            System.exit(1);
        }
    }
}
