import java.util.Arrays;
import java.util.LinkedHashMap;
import java.util.List;
import java.util.Map;
import java.util.Set;

/**
 * "INVALID_ARGUMENT if an argument is out of range": the lowest and the highest of each argument of
 * each call are taken, and those beside them refused, in many states. "A call that returns an error
 * changes nothing": after each refused call all is as it was, the history and the text too, and so
 * it is after each call that only asks.
 */
public final class RefusedTests {
    private static final int INVALID = SummedParents.INVALID_ARGUMENT;
    private static final int IMPOSSIBLE = SummedParents.NOT_POSSIBLE;
    private static final int LIMIT = SummedParents.LIMIT_REACHED;
    private static final int NONE = SummedParents.NOT_FOUND;

    private static final Check CHECK = new Check("refused");

    private interface Method {
        int on(SummedParents tree, int[] arguments);
    }

    /** From the lowest to the highest one that is in range. */
    private record Range(int lowest, int highest) { }

    /** Stands for a range that ends with the list of roots. */
    private static final Range ROOT = new Range(0, -1);

    private record Face(String name, Method method, Range... ranges) { }

    private static Range upTo(int highest) {
        return new Range(0, highest);
    }

    private static final List<Face> FACES = List.of(
            new Face("write", (tree, a) -> tree.write(a[0], a[1], a[2]), upTo(15), upTo(3), upTo(999)),
            new Face("mishap", (tree, a) -> tree.mishap(a[0]), upTo(3)),
            new Face("rot", (tree, a) -> tree.rot(a[0], a[1], a[2], a[3]),
                    upTo(95), upTo(1), upTo(3), upTo(65535)),
            new Face("read", (tree, a) -> tree.read(a[0], a[1], a[2]), ROOT, upTo(15), upTo(3)),
            new Face("from", (tree, a) -> tree.from(a[0], a[1], a[2]), ROOT, upTo(15), upTo(2)),
            new Face("way", (tree, a) -> tree.way(a[0], a[1], a[2], a[3]), ROOT, upTo(15), upTo(2), upTo(1)),
            new Face("content", (tree, a) -> tree.content(a[0], a[1], a[2]), upTo(95), upTo(1), upTo(4)),
            new Face("mend", (tree, a) -> tree.mend(a[0], a[1]), ROOT, upTo(15)),
            new Face("leaves", (tree, a) -> tree.leaves(a[0], a[1]), ROOT, upTo(2)),
            new Face("free", (tree, a) -> tree.free(a[0]), ROOT),
            new Face("back", (tree, a) -> tree.back(a[0]), ROOT),
            new Face("rootOf", (tree, a) -> tree.rootOf(a[0], a[1]), ROOT, upTo(4)),
            new Face("unlike", (tree, a) -> tree.unlike(a[0], a[1]), ROOT, ROOT),
            new Face("count", (tree, a) -> tree.count(a[0]), upTo(7)),
            new Face("type", (tree, a) -> tree.type(a[0]), new Range(32, 126)),
            new Face("fault", (tree, a) -> tree.fault(a[0]), upTo(2)));

    private static final Set<String> QUESTIONS = Set.of(
            "read", "from", "way", "content", "leaves", "rootOf", "unlike", "count", "fault");

    private static final Map<String, Snapshot.Run> STATES = states();

    private RefusedTests() {
    }

    public static void main(String[] args) {
        for (String state : STATES.keySet()) {
            List<Integer> before = Snapshot.of(STATES.get(state));
            for (Face face : FACES) {
                taken(state, before, face);
                refused(state, before, face);
            }
        }
        notPossible();
        limitReached();
        notFound();
        CHECK.end();
    }

    // ---- states.

    private static Map<String, Snapshot.Run> states() {
        Map<String, Snapshot.Run> states = new LinkedHashMap<>();
        states.put("new", tree -> { });
        states.put("one change", tree -> tree.mishap(2));
        states.put("two roots", tree -> tree.write(15, 3, 999));
        states.put("full history", RefusedTests::fullHistory);
        states.put("eight roots", tree -> writeOften(tree, 7));
        states.put("seven roots", tree -> writeOften(tree, 6));
        states.put("spoiled root", tree -> spoil(tree, 20));
        states.put("spoiled parent", tree -> spoil(tree, 16));
        states.put("spoiled leaf", tree -> spoil(tree, 0));
        states.put("two free blocks", tree -> Crowd.fill(tree, List.of(40, 95)));
        states.put("no free block", tree -> Crowd.fill(tree, List.of()));
        states.put("text", tree -> type(tree, "0.0=1;15.3=2;"));
        states.put("full text", tree -> type(tree, "0.0=1;".repeat(10)));
        states.put("text of no form", tree -> type(tree, "1.0=1;1.0=1"));
        states.put("text of no leaf", tree -> type(tree, "1.0=1;16.0=1;"));
        return states;
    }

    private static void type(SummedParents tree, String text) {
        for (char each : text.toCharArray()) {
            tree.type(each);
        }
    }

    private static void writeOften(SummedParents tree, int times) {
        for (int value = 1; value <= times; value++) {
            tree.write(value, 0, value);
        }
    }

    private static void spoil(SummedParents tree, int block) {
        tree.rot(block, 0, 0, 1);
        tree.rot(block, 1, 0, 1);
    }

    private static void fullHistory(SummedParents tree) {
        tree.mishap(1);
        tree.write(3, 3, 7);
        tree.write(4, 3, 8);
        tree.rot(16, 0, 0, 99);
        tree.free(1);
        tree.mishap(3);
        type(tree, "9.1=5;");
    }

    // ---- arguments.

    private static Range rangeIn(Range range, int roots) {
        return range == ROOT ? upTo(roots - 1) : range;
    }

    private static int rootsOf(String state) {
        SummedParents tree = new SummedParents();
        STATES.get(state).on(tree);
        return tree.count(0);
    }

    private static String told(String state, Face face, int[] arguments) {
        StringBuilder told = new StringBuilder(state + ": " + face.name() + "(");
        for (int index = 0; index < arguments.length; index++) {
            told.append(index == 0 ? "" : ", ").append(arguments[index]);
        }
        return told.append(")").toString();
    }

    /** Arguments that are the lowest or the highest of their range, as the bits of a number tell. */
    private static int[] edges(Face face, int bits, int roots) {
        int[] arguments = new int[face.ranges().length];
        for (int index = 0; index < arguments.length; index++) {
            Range range = rangeIn(face.ranges()[index], roots);
            arguments[index] = (bits >> index & 1) == 0 ? range.lowest() : range.highest();
        }
        return arguments;
    }

    private static void taken(String state, List<Integer> before, Face face) {
        int roots = rootsOf(state);
        Snapshot.Run run = STATES.get(state);
        for (int bits = 0; bits < 1 << face.ranges().length; bits++) {
            int[] arguments = edges(face, bits, roots);
            SummedParents tree = new SummedParents();
            run.on(tree);
            int answer = face.method().on(tree, arguments);
            String told = told(state, face, arguments);
            CHECK.due(told + " is in range", answer == INVALID ? 0 : 1, 1);
            if (QUESTIONS.contains(face.name())) {
                List<Integer> after = Snapshot.of(each -> {
                    run.on(each);
                    face.method().on(each, arguments);
                });
                CHECK.due(told + " changes nothing", after.equals(before) ? 0 : 1, 0);
            }
        }
    }

    private static int[] beside(Range range) {
        return new int[] {range.lowest() - 1, range.highest() + 1, Integer.MIN_VALUE, Integer.MAX_VALUE};
    }

    private static void refused(String state, List<Integer> before, Face face) {
        int roots = rootsOf(state);
        int most = (1 << face.ranges().length) - 1;
        for (int index = 0; index < face.ranges().length; index++) {
            for (int wrong : beside(rangeIn(face.ranges()[index], roots))) {
                for (int bits : new int[] {0, most}) {
                    int[] arguments = edges(face, bits, roots);
                    arguments[index] = wrong;
                    refused(told(state, face, arguments), STATES.get(state), before,
                            tree -> face.method().on(tree, arguments), INVALID);
                }
            }
        }
        int[] allWrong = new int[face.ranges().length];
        for (int wrong : new int[] {-1, Integer.MAX_VALUE}) {
            Arrays.fill(allWrong, wrong);
            refused(told(state, face, allWrong), STATES.get(state), before,
                    tree -> face.method().on(tree, allWrong), INVALID);
        }
    }

    private static void refused(String told, Snapshot.Run run, List<Integer> before,
            Snapshot.Call call, int error) {
        List<Integer> after = Snapshot.of(tree -> {
            run.on(tree);
            // Twice, for what is refused once is refused again.
            CHECK.due(told, call.on(tree), error);
            CHECK.due(told, call.on(tree), error);
        });
        CHECK.due(told + " changes nothing", after.equals(before) ? 0 : 1, 0);
    }

    private static void refused(String state, String told, Snapshot.Call call, int error) {
        Snapshot.Run run = STATES.get(state);
        refused(state + ": " + told, run, Snapshot.of(run), call, error);
    }

    // ---- errors of the state.

    private static void notPossible() {
        for (String state : new String[] {"spoiled root", "spoiled parent", "spoiled leaf"}) {
            refused(state, "write(0, 0, 1)", tree -> tree.write(0, 0, 1), IMPOSSIBLE);
            refused(state, "read(0, 0, 0)", tree -> tree.read(0, 0, 0), IMPOSSIBLE);
        }
        for (String state : new String[] {"new", "two roots", "eight roots", "spoiled root"}) {
            refused(state, "free(0)", tree -> tree.free(0), IMPOSSIBLE);
        }
        refused("new", "undo()", tree -> tree.undo(), IMPOSSIBLE);
        refused("full text", "undo()", tree -> tree.undo(), IMPOSSIBLE);
        for (String state : new String[] {"full text", "text of no form", "text of no leaf"}) {
            refused(state, "play()", tree -> tree.play(), IMPOSSIBLE);
        }
        refused("two free blocks", "unlike(0, 1)", tree -> tree.unlike(0, 1), IMPOSSIBLE);
        refused("two free blocks", "unlike(1, 0)", tree -> tree.unlike(1, 0), IMPOSSIBLE);
    }

    private static void limitReached() {
        for (String state : new String[] {"eight roots", "two free blocks", "no free block"}) {
            refused(state, "write(0, 0, 1)", tree -> tree.write(0, 0, 1), LIMIT);
            refused(state, "write(15, 3, 999)", tree -> tree.write(15, 3, 999), LIMIT);
        }
        refused("full text", "type(48)", tree -> tree.type(48), LIMIT);
        refused("full text", "type(32)", tree -> tree.type(32), LIMIT);
    }

    private static void notFound() {
        for (String state : new String[] {"spoiled root", "spoiled parent"}) {
            refused(state, "from(0, 0, 2)", tree -> tree.from(0, 0, 2), NONE);
            refused(state, "way(0, 0, 2, 0)", tree -> tree.way(0, 0, 2, 0), NONE);
            refused(state, "way(0, 0, 2, 1)", tree -> tree.way(0, 0, 2, 1), NONE);
        }
        refused("spoiled root", "from(0, 15, 1)", tree -> tree.from(0, 15, 1), NONE);
        refused("spoiled root", "way(0, 15, 1, 0)", tree -> tree.way(0, 15, 1, 0), NONE);
        refused("no free block", "count(5)", tree -> tree.count(5), NONE);
        for (int what = 0; what < 3; what++) {
            int asked = what;
            refused("new", "fault(" + what + ")", tree -> tree.fault(asked), NONE);
            refused("text", "fault(" + what + ")", tree -> tree.fault(asked), NONE);
        }
        refused("text of no leaf", "fault(2)", tree -> tree.fault(2), NONE);
    }
}
