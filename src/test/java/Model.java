import java.util.ArrayDeque;
import java.util.ArrayList;
import java.util.Arrays;
import java.util.Deque;
import java.util.List;
import java.util.Set;
import java.util.TreeSet;
import java.util.regex.Matcher;
import java.util.regex.Pattern;

/**
 * What the document says, written a second time and in another way than the class: with lists,
 * sets and patterns of the Java library, new worlds for each change, and no thought of cost.
 */
final class Model {
    static final int INVALID = -1000001;
    static final int IMPOSSIBLE = -1000002;
    static final int LIMIT = -1000003;
    static final int NONE = -1000004;

    private static final Pattern WRITE = Pattern.compile("([0-9]{1,2})\\.([0-9])=([0-9]{1,3});");
    private static final Pattern BEGUN =
            Pattern.compile("([0-9]{1,2}(\\.([0-9](=([0-9]{1,3}(;)?)?)?)?)?)?");

    private record Root(int number, int block, int sum) { }

    /** A block on a way: what is told of it, from which copy it is taken, and what it holds. */
    private record Step(int block, int sum, int copy, int[] taken) { }

    private static final class World {
        final int[][][] contents = new int[96][2][4];
        Set<Integer> used = new TreeSet<>();
        List<Root> roots = new ArrayList<>();
        int mishap;
        int writes;
        int nextNumber;

        World copy() {
            World copy = new World();
            for (int block = 0; block < 96; block++) {
                copy.contents[block][0] = contents[block][0].clone();
                copy.contents[block][1] = contents[block][1].clone();
            }
            copy.used = new TreeSet<>(used);
            copy.roots = new ArrayList<>(roots);
            copy.mishap = mishap;
            copy.writes = writes;
            copy.nextNumber = nextNumber;
            return copy;
        }
    }

    private record Fault(int position, int reason, int cause, World after, int writes) { }

    private World world = new World();
    private final Deque<World> history = new ArrayDeque<>();
    private String text = "";

    Model() {
        int[] root = new int[4];
        for (int parent = 0; parent < 4; parent++) {
            int[] content = new int[4];
            for (int child = 0; child < 4; child++) {
                content[child] = 256 * (4 * parent + child) + 7;
            }
            fill(world, 16 + parent, content);
            root[parent] = 256 * (16 + parent) + sum(content);
        }
        fill(world, 20, root);
        for (int block = 0; block <= 20; block++) {
            world.used.add(block);
        }
        world.roots.add(new Root(0, 20, sum(root)));
        world.nextNumber = 1;
    }

    private static void fill(World world, int block, int[] content) {
        world.contents[block][0] = content.clone();
        world.contents[block][1] = content.clone();
    }

    private static int sum(int[] content) {
        return (4 * content[0] + 3 * content[1] + 2 * content[2] + content[3] + 7) % 251;
    }

    private static boolean in(int value, int least, int most) {
        return least <= value && value <= most;
    }

    private boolean noRoot(int root) {
        return !in(root, 0, world.roots.size() - 1);
    }

    private void remember() {
        history.addLast(world.copy());
        if (history.size() > 3) {
            history.removeFirst();
        }
    }

    private static int taken(World world, int block, int sum) {
        if (block >= 96) {
            return 2;
        }
        for (int copy = 0; copy < 2; copy++) {
            if (sum(world.contents[block][copy]) == sum) {
                return copy;
            }
        }
        return 2;
    }

    /** As many steps as are told: a spoiled one is the last. */
    private static List<Step> steps(World world, int root, int leaf) {
        List<Step> steps = new ArrayList<>();
        Root top = world.roots.get(root);
        int told = 256 * top.block() + top.sum();
        int[] turns = {leaf / 4, leaf % 4, 0};
        for (int turn : turns) {
            int copy = taken(world, told / 256, told % 256);
            int[] content = copy == 2 ? null : world.contents[told / 256][copy].clone();
            steps.add(new Step(told / 256, told % 256, copy, content));
            if (copy == 2) {
                break;
            }
            told = content[turn];
        }
        return steps;
    }

    private static boolean spoiled(List<Step> steps) {
        return steps.get(steps.size() - 1).copy() == 2;
    }

    private static boolean unlikeCopies(World world, int block) {
        return !Arrays.equals(world.contents[block][0], world.contents[block][1]);
    }

    private static int writeInto(World world, int leaf, int place, int value) {
        if (world.roots.size() == 8 || 96 - world.used.size() < 3) {
            return LIMIT;
        }
        List<Step> steps = steps(world, 0, leaf);
        if (spoiled(steps)) {
            return IMPOSSIBLE;
        }
        int[] leafContent = steps.get(2).taken();
        int[] parentContent = steps.get(1).taken();
        int[] rootContent = steps.get(0).taken();
        int before = leafContent[place];
        List<Integer> fresh = new ArrayList<>();
        for (int block = 0; fresh.size() < 3; block++) {
            if (!world.used.contains(block)) {
                fresh.add(block);
            }
        }
        world.used.addAll(fresh);
        leafContent[place] = value;
        parentContent[leaf % 4] = fresh.get(0) * 256 + sum(leafContent);
        rootContent[leaf / 4] = fresh.get(1) * 256 + sum(parentContent);
        int[] formerLeaf = world.contents[fresh.get(0)][0];
        int[] formerParent = world.contents[fresh.get(1)][0];
        fill(world, fresh.get(0), leafContent);
        fill(world, fresh.get(1), parentContent);
        fill(world, fresh.get(2), rootContent);
        if (world.mishap == 1) {
            world.contents[fresh.get(0)][0][2] = formerLeaf[2];
            world.contents[fresh.get(0)][0][3] = formerLeaf[3];
        } else if (world.mishap == 2) {
            world.contents[fresh.get(1)][0] = formerParent;
        } else if (world.mishap == 3) {
            world.contents[fresh.get(0)][0] = parentContent.clone();
            world.contents[fresh.get(1)][0] = leafContent.clone();
        }
        world.mishap = 0;
        world.writes++;
        world.roots.add(0, new Root(world.nextNumber++, fresh.get(2), sum(rootContent)));
        return before;
    }

    int write(int leaf, int place, int value) {
        if (!in(leaf, 0, 15) || !in(place, 0, 3) || !in(value, 0, 999)) {
            return INVALID;
        }
        World after = world.copy();
        int answer = writeInto(after, leaf, place, value);
        if (answer >= 0) {
            remember();
            world = after;
        }
        return answer;
    }

    int mishap(int kind) {
        if (!in(kind, 0, 3)) {
            return INVALID;
        }
        remember();
        int before = world.mishap;
        world.mishap = kind;
        return before;
    }

    int rot(int block, int copy, int place, int value) {
        if (!in(block, 0, 95) || !in(copy, 0, 1) || !in(place, 0, 3) || !in(value, 0, 65535)) {
            return INVALID;
        }
        remember();
        int before = world.contents[block][copy][place];
        world.contents[block][copy][place] = value;
        return before;
    }

    int read(int root, int leaf, int place) {
        if (noRoot(root) || !in(leaf, 0, 15) || !in(place, 0, 3)) {
            return INVALID;
        }
        List<Step> steps = steps(world, root, leaf);
        return spoiled(steps) ? IMPOSSIBLE : steps.get(2).taken()[place];
    }

    int from(int root, int leaf, int level) {
        if (noRoot(root) || !in(leaf, 0, 15) || !in(level, 0, 2)) {
            return INVALID;
        }
        List<Step> steps = steps(world, root, leaf);
        return level < steps.size() ? steps.get(level).copy() : NONE;
    }

    int way(int root, int leaf, int level, int what) {
        if (noRoot(root) || !in(leaf, 0, 15) || !in(level, 0, 2) || !in(what, 0, 1)) {
            return INVALID;
        }
        List<Step> steps = steps(world, root, leaf);
        if (level >= steps.size()) {
            return NONE;
        }
        return what == 0 ? steps.get(level).block() : steps.get(level).sum();
    }

    int content(int block, int copy, int place) {
        if (!in(block, 0, 95) || !in(copy, 0, 1) || !in(place, 0, 4)) {
            return INVALID;
        }
        int[] content = world.contents[block][copy];
        return place == 4 ? sum(content) : content[place];
    }

    private void mendInto(int root, int leaf, Set<Integer> unlike) {
        for (Step step : steps(world, root, leaf)) {
            if (step.copy() != 2) {
                if (unlikeCopies(world, step.block())) {
                    unlike.add(step.block());
                }
                fill(world, step.block(), step.taken());
            }
        }
    }

    int mend(int root, int leaf) {
        if (noRoot(root) || !in(leaf, 0, 15)) {
            return INVALID;
        }
        remember();
        Set<Integer> unlike = new TreeSet<>();
        mendInto(root, leaf, unlike);
        return unlike.size();
    }

    int scrub() {
        remember();
        Set<Integer> unlike = new TreeSet<>();
        for (int root = 0; root < world.roots.size(); root++) {
            for (int leaf = 0; leaf < 16; leaf++) {
                mendInto(root, leaf, unlike);
            }
        }
        return unlike.size();
    }

    int leaves(int root, int what) {
        if (noRoot(root) || !in(what, 0, 2)) {
            return INVALID;
        }
        int set = 0;
        for (int leaf = 0; leaf < 16; leaf++) {
            List<Step> steps = steps(world, root, leaf);
            boolean told;
            if (what == 0) {
                told = spoiled(steps);
            } else if (spoiled(steps)) {
                told = false;
            } else if (what == 1) {
                told = steps.stream().anyMatch(step -> unlikeCopies(world, step.block()));
            } else {
                told = steps.stream().anyMatch(step -> step.copy() == 1);
            }
            set += told ? (int) Math.pow(2, leaf) : 0;
        }
        return set;
    }

    private Set<Integer> belonging(Root root) {
        Set<Integer> all = new TreeSet<>();
        gather(256 * root.block() + root.sum(), 0, all);
        return all;
    }

    private void gather(int told, int level, Set<Integer> all) {
        if (told / 256 > 95) {
            return;
        }
        all.add(told / 256);
        if (level < 2) {
            int copy = taken(world, told / 256, told % 256);
            for (int child : world.contents[told / 256][copy == 1 ? 1 : 0]) {
                gather(child, level + 1, all);
            }
        }
    }

    private int recount() {
        Set<Integer> before = world.used;
        world.used = new TreeSet<>();
        for (Root root : world.roots) {
            world.used.addAll(belonging(root));
        }
        before.removeAll(world.used);
        return before.size();
    }

    int free(int root) {
        if (noRoot(root)) {
            return INVALID;
        }
        if (root == 0) {
            return IMPOSSIBLE;
        }
        remember();
        world.roots.remove(root);
        return recount();
    }

    int back(int root) {
        if (noRoot(root)) {
            return INVALID;
        }
        remember();
        if (root == 0) {
            return 0;
        }
        world.roots = new ArrayList<>(world.roots.subList(root, world.roots.size()));
        return recount();
    }

    int rootOf(int root, int what) {
        if (noRoot(root) || !in(what, 0, 4)) {
            return INVALID;
        }
        Root found = world.roots.get(root);
        Set<Integer> all = belonging(found);
        if (what == 3) {
            return all.size();
        }
        for (Root other : world.roots) {
            if (other.number() != found.number()) {
                all.removeAll(belonging(other));
            }
        }
        return new int[] {found.number(), found.block(), found.sum(), 0, all.size()}[what];
    }

    int unlike(int one, int other) {
        if (noRoot(one) || noRoot(other)) {
            return INVALID;
        }
        Root first = world.roots.get(one);
        Root second = world.roots.get(other);
        return unlike(256 * first.block() + first.sum(), 256 * second.block() + second.sum(), 2, 0);
    }

    /** By the height above the leaves and the first leaf under what is told. */
    private int unlike(int one, int other, int height, int leaf) {
        if (one / 256 == other / 256) {
            return 0;
        }
        if (height == 0) {
            return 1 << leaf;
        }
        int oneCopy = taken(world, one / 256, one % 256);
        int otherCopy = taken(world, other / 256, other % 256);
        if (oneCopy == 2 || otherCopy == 2) {
            return IMPOSSIBLE;
        }
        int set = 0;
        for (int child = 0; child < 4; child++) {
            int part = unlike(world.contents[one / 256][oneCopy][child],
                    world.contents[other / 256][otherCopy][child],
                    height - 1, leaf + child * (height == 2 ? 4 : 1));
            if (part < 0) {
                return IMPOSSIBLE;
            }
            set |= part;
        }
        return set;
    }

    private int lowestFree() {
        for (int block = 0; block < 96; block++) {
            if (!world.used.contains(block)) {
                return block;
            }
        }
        return NONE;
    }

    int count(int what) {
        if (!in(what, 0, 7)) {
            return INVALID;
        }
        long unlike = world.used.stream().filter(block -> unlikeCopies(world, block)).count();
        return new int[] {world.roots.size(), 96 - world.used.size(), world.mishap, world.writes,
            (int) unlike, lowestFree(), history.size(), text.length()}[what];
    }

    int undo() {
        if (history.isEmpty()) {
            return IMPOSSIBLE;
        }
        world = history.removeLast();
        return history.size();
    }

    int type(int character) {
        if (!in(character, 32, 126)) {
            return INVALID;
        }
        if (text.length() == 60) {
            return LIMIT;
        }
        text += (char) character;
        return text.length();
    }

    int clearText() {
        int before = text.length();
        text = "";
        return before;
    }

    private Fault examine() {
        World after = world.copy();
        int position = 0;
        int writes = 0;
        while (position < text.length()) {
            String rest = text.substring(position);
            Matcher write = WRITE.matcher(rest);
            if (!write.lookingAt()) {
                Matcher begun = BEGUN.matcher(rest);
                return new Fault(position, 1, begun.lookingAt() ? begun.end() : 0, after, writes);
            }
            int leaf = Integer.parseInt(write.group(1));
            int place = Integer.parseInt(write.group(2));
            if (leaf > 15 || place > 3) {
                return new Fault(position, 2, NONE, after, writes);
            }
            int answer = writeInto(after, leaf, place, Integer.parseInt(write.group(3)));
            if (answer < 0) {
                return new Fault(position, 3, answer, after, writes);
            }
            position += write.end();
            writes++;
        }
        return new Fault(NONE, NONE, NONE, after, writes);
    }

    int fault(int what) {
        if (!in(what, 0, 2)) {
            return INVALID;
        }
        Fault fault = examine();
        return new int[] {fault.position(), fault.reason(), fault.cause()}[what];
    }

    int play() {
        Fault fault = examine();
        if (fault.reason() != NONE) {
            return IMPOSSIBLE;
        }
        remember();
        world = fault.after();
        return fault.writes();
    }
}
