import com.sun.source.tree.Tree;
import java.io.IOException;
import java.util.Set;
import java.util.TreeSet;

/** The rules of ../shared/LANGUAGE.md that can be counted in the program's text. */
public final class LanguageTest {
    private static final Set<String> LIBRARY = Set.of(
            "java.lang.Object.<init>", "java.lang.Enum.<init>",
            "java.lang.String.length", "java.lang.String.charAt",
            "java.lang.Math.max", "java.lang.Math.min",
            "java.lang.System.arraycopy", "java.util.Arrays.fill",
            "java.lang.IllegalStateException.<init>",
            "java.lang.IllegalArgumentException.<init>",
            "java.lang.IndexOutOfBoundsException.<init>");

    private static final Set<Tree.Kind> RULED_OUT = Set.of(
            Tree.Kind.LAMBDA_EXPRESSION, Tree.Kind.MEMBER_REFERENCE,
            Tree.Kind.SYNCHRONIZED, Tree.Kind.ASSERT);

    public static void main(String[] args) throws IOException {
        Source source = new Source();
        callsGoAtMostEightDeep(source);
        methodsStayShort(source);
        classesStayFewAndSmall(source);
        onlyTheListedLibraryIsUsed(source);
        nothingRuledOutIsUsed(source);
        Probe.finish();
    }

    /** Rule 11: "calls that are no recursion go at most eight deep". */
    private static void callsGoAtMostEightDeep(Source source) {
        Probe.due("too deep: " + source.longestChain(), source.longestChain().size() <= 8, true);
        // A chain this short would mean that the calls were not found at all.
        Probe.due("a chain was found", source.longestChain().size() >= 4, true);
    }

    /** Rule 11: "A method takes at most seven parameters. Methods stay short (some sixty lines)". */
    private static void methodsStayShort(Source source) {
        source.parameters.forEach(
                (method, count) -> Probe.due("parameters of " + method, count <= 7, true));
        source.lengths.forEach(
                (method, lines) -> Probe.due("length of " + method, lines <= 60, true));
        Probe.due("methods were found", source.lengths.size() >= 11, true);
    }

    /** Rule 11: "the file has at most some twelve classes, and a class some twenty fields". */
    private static void classesStayFewAndSmall(Source source) {
        Probe.due("classes", source.fields.size() <= 12, true);
        source.fields.forEach((name, count) -> Probe.due("fields of " + name, count <= 20, true));
        Probe.due("fields that were found", source.fields.get("QuietChecker") > 0, true);
    }

    /** Rule 4: "The library: only what stands here." */
    private static void onlyTheListedLibraryIsUsed(Source source) {
        Set<String> others = new TreeSet<>(source.libraryCalls);
        others.removeAll(LIBRARY);
        Probe.due("not in the list: " + others, others.size(), 0);
        Probe.due("library calls were found", source.libraryCalls.isEmpty(), false);
    }

    /** Rules 2, 5 and 6: no lambda, no static field that changes, no synchronized, no assert. */
    private static void nothingRuledOutIsUsed(Source source) {
        Probe.due("static but not final: " + source.changingStatics,
                source.changingStatics.size(), 0);
        for (Tree.Kind kind : RULED_OUT) {
            Probe.due("uses " + kind, source.kinds.contains(kind), false);
        }
    }
}
