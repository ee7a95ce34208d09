import java.util.ArrayList;
import java.util.List;

/** Long runs of calls, each answered by the class and by the model. */
public final class ModelTests {
    private static final int RUNS = 3000;
    /** What later calls of an object answer is free. */
    private static final int CALLS = 512;

    private final Check check;
    private final List<String> calls = new ArrayList<>();
    private final SummedParents tree = new SummedParents();
    private final Model model = new Model();
    private final int run;
    private long seed;

    private ModelTests(Check check, int run) {
        this.check = check;
        this.run = run;
        this.seed = 88172645463325252L + 7919L * run;
    }

    public static void main(String[] args) {
        Check check = new Check("model");
        for (int run = 0; run < RUNS && check.isClean(); run++) {
            new ModelTests(check, run).runAll();
        }
        check.end();
    }

    private void runAll() {
        while (calls.size() < CALLS && check.isClean()) {
            switch (run % 5) {
                case 0 -> step(30, 6, 8, 0);
                case 1 -> step(25, 4, 25, 25);
                case 2 -> step(10, 60, 6, 2);
                case 3 -> step(12, 3, 10, 60);
                default -> crowd();
            }
        }
        if (!check.isClean()) {
            System.out.println("run " + run + ":");
            calls.forEach(each -> System.out.println("  " + each));
        }
    }

    private int pick(int end) {
        seed ^= seed << 13;
        seed ^= seed >>> 7;
        seed ^= seed << 17;
        return (int) Math.floorMod(seed >>> 16, (long) end);
    }

    /** Mostly within the range, now and then just beside it or far out. */
    private int some(int end) {
        switch (pick(60)) {
            case 0: return -1;
            case 1: return end;
            case 2: return Integer.MIN_VALUE;
            case 3: return Integer.MAX_VALUE;
            default: return pick(end);
        }
    }

    private int someRoot() {
        return pick(25) == 0 ? some(9) : pick(Math.max(1, model.count(0)));
    }

    private void step(int writes, int texts, int rots, int forgings) {
        int others = 20;
        int die = pick(writes + texts + rots + forgings + others);
        if (die < writes) {
            change();
        } else if (die < writes + texts) {
            text();
        } else if (die < writes + texts + rots) {
            rot(some(96), some(2), some(4), pick(3) == 0 ? some(65536) : some(1000));
        } else if (die < writes + texts + rots + forgings) {
            forge();
        } else {
            ask();
        }
        state();
    }

    private void change() {
        switch (pick(14)) {
            case 0, 1 -> mishap(some(4));
            case 2 -> undo();
            case 3 -> free(someRoot());
            case 4 -> back(pick(3) == 0 ? someRoot() : 0);
            case 5 -> mend(someRoot(), some(16));
            case 6 -> {
                if (pick(4) == 0) {
                    scrub();
                }
            }
            case 7, 8 -> {
                if (model.count(0) == 8) {
                    free(1 + pick(7));
                }
            }
            default -> write(some(16), some(4), some(1000));
        }
    }

    private void text() {
        switch (pick(40)) {
            case 0, 1 -> clearText();
            case 2 -> {
                play();
                back(pick(2) == 0 ? Math.max(0, model.count(0) - 1) : 0);
            }
            case 3, 4, 5, 6, 7, 8 -> typeAll(pick(18) + "." + pick(5) + "=" + pick(1000) + ";");
            case 9, 10 -> typeAll("0" + pick(10) + "." + pick(4) + "=0" + pick(100) + ";");
            case 11 -> type(some(127));
            case 12 -> type(";.= 0123456789:/x".charAt(pick(17)));
            case 13 -> typeAll("" + pick(200) + "." + pick(4) + "=" + pick(2000) + ";");
            default -> {
                if (model.count(7) > 30 && pick(3) == 0 || model.fault(1) == 1) {
                    clearText();
                } else {
                    fault(some(3));
                }
            }
        }
        for (int what = 0; what < 3; what++) {
            fault(what);
        }
    }

    private void typeAll(String characters) {
        for (char each : characters.toCharArray()) {
            type(each);
        }
    }

    private void ask() {
        switch (pick(9)) {
            case 0 -> read(someRoot(), some(16), some(4));
            case 1 -> from(someRoot(), some(16), some(3));
            case 2 -> way(someRoot(), some(16), some(3), some(2));
            case 3 -> content(some(96), some(2), some(5));
            case 4 -> leaves(someRoot(), some(3));
            case 5 -> rootOf(someRoot(), some(5));
            case 6 -> unlike(someRoot(), someRoot());
            case 7 -> count(some(8));
            default -> fault(some(3));
        }
    }

    /** Makes a block on a way tell of another child, with sums that are right all the same. */
    private void forge() {
        int root = pick(model.count(0));
        int leaf = pick(16);
        int level = pick(3);
        int block = model.way(root, leaf, level, 0);
        int sum = model.way(root, leaf, level, 1);
        if (block < 0 || block > 95 || sum > 250) {
            return;
        }
        int copy = pick(2);
        int place = pick(4);
        int child = pick(4) == 0 ? model.way(root, pick(16), pick(3), 0) : pick(pick(3) == 0 ? 130 : 96);
        child = child < 0 ? 0 : child;
        int childSum = child > 95 || pick(4) == 0 ? pick(256) : model.content(child, pick(2), 4);
        rot(block, copy, place, level == 2 ? pick(1000) : 256 * child + childSum);
        balance(block, copy, place, sum);
        if (pick(3) == 0) {
            for (int each = 0; each < 4; each++) {
                rot(block, 1 - copy, each, model.content(block, copy, each));
            }
        }
    }

    /** Changes one number so that the sum of a content becomes another one. */
    private void balance(int block, int copy, int but, int sum) {
        int place = but == 3 ? pick(3) : 3;
        int old = model.content(block, copy, place);
        int step = old < 60000 ? 1 : -1;
        for (int tries = 0; tries < 251; tries++) {
            int now = model.content(block, copy, place);
            int difference = Math.floorMod(sum - model.content(block, copy, 4), 251);
            if (difference == 0) {
                return;
            }
            int weight = 4 - place;
            int units = 0;
            while (Math.floorMod(weight * units * step, 251) != difference) {
                units++;
            }
            rot(block, copy, place, now + units * step);
        }
    }

    /** Spoiled roots that tell of many blocks, until few or none is free. */
    private void crowd() {
        int die = pick(30);
        if (die < 9) {
            int root = pick(model.count(0));
            int block = model.rootOf(root, 1);
            int copy = pick(5) == 0 ? 1 : 0;
            rot(block, copy, pick(4), 256 * pick(100) + 252 + pick(4));
        } else if (die < 22) {
            int root = model.rootOf(pick(model.count(0)), 1);
            int parent = model.content(root, 0, pick(4)) / 256;
            rot(parent, 0, pick(4), 256 * (pick(8) == 0 ? pick(256) : pick(96)) + pick(256));
        } else if (die < 24 && model.count(0) > 2 && pick(5) == 0) {
            free(1 + pick(model.count(0) - 1));
        } else if (die == 25 && pick(60) == 0) {
            back(someRoot());
        } else if (die < 28) {
            if (pick(8) == 0 && model.count(1) > 2) {
                revive();
            }
            write(some(16), some(4), some(1000));
        } else {
            ask();
        }
        state();
    }

    /** Gives the latest root back a way to the leaf 0. */
    private void revive() {
        int block = model.rootOf(0, 1);
        for (int level = 0; level < 3; level++) {
            balance(block, 1, 0, model.way(0, 0, level, 1));
            if (level < 2) {
                block = model.way(0, 0, level + 1, 0);
            }
            if (block > 95 || block < 0) {
                return;
            }
        }
        write(0, some(4), some(1000));
    }

    /** What there is to ask, but for what is asked by the way. */
    private void state() {
        count(pick(8));
        int block = pick(96);
        content(block, pick(2), pick(5));
        if (pick(4) == 0) {
            ask();
        }
    }

    private void due(String call, int got, int want) {
        if (calls.size() == CALLS) {
            return;
        }
        calls.add(call + " " + want);
        check.due("run " + run + ": " + call, got, want);
    }

    private void write(int leaf, int place, int value) {
        due("write(" + leaf + ", " + place + ", " + value + ")",
                tree.write(leaf, place, value), model.write(leaf, place, value));
    }

    private void mishap(int kind) {
        due("mishap(" + kind + ")", tree.mishap(kind), model.mishap(kind));
    }

    private void rot(int block, int copy, int place, int value) {
        due("rot(" + block + ", " + copy + ", " + place + ", " + value + ")",
                tree.rot(block, copy, place, value), model.rot(block, copy, place, value));
    }

    private void read(int root, int leaf, int place) {
        due("read(" + root + ", " + leaf + ", " + place + ")",
                tree.read(root, leaf, place), model.read(root, leaf, place));
    }

    private void from(int root, int leaf, int level) {
        due("from(" + root + ", " + leaf + ", " + level + ")",
                tree.from(root, leaf, level), model.from(root, leaf, level));
    }

    private void way(int root, int leaf, int level, int what) {
        due("way(" + root + ", " + leaf + ", " + level + ", " + what + ")",
                tree.way(root, leaf, level, what), model.way(root, leaf, level, what));
    }

    private void content(int block, int copy, int place) {
        due("content(" + block + ", " + copy + ", " + place + ")",
                tree.content(block, copy, place), model.content(block, copy, place));
    }

    private void mend(int root, int leaf) {
        due("mend(" + root + ", " + leaf + ")", tree.mend(root, leaf), model.mend(root, leaf));
    }

    private void scrub() {
        due("scrub()", tree.scrub(), model.scrub());
    }

    private void leaves(int root, int what) {
        due("leaves(" + root + ", " + what + ")", tree.leaves(root, what), model.leaves(root, what));
    }

    private void free(int root) {
        due("free(" + root + ")", tree.free(root), model.free(root));
    }

    private void back(int root) {
        due("back(" + root + ")", tree.back(root), model.back(root));
    }

    private void rootOf(int root, int what) {
        due("rootOf(" + root + ", " + what + ")", tree.rootOf(root, what), model.rootOf(root, what));
    }

    private void unlike(int one, int other) {
        due("unlike(" + one + ", " + other + ")", tree.unlike(one, other), model.unlike(one, other));
    }

    private void count(int what) {
        due("count(" + what + ")", tree.count(what), model.count(what));
    }

    private void undo() {
        due("undo()", tree.undo(), model.undo());
    }

    private void type(int character) {
        due("type(" + character + ")", tree.type(character), model.type(character));
    }

    private void clearText() {
        due("clearText()", tree.clearText(), model.clearText());
    }

    private void fault(int what) {
        due("fault(" + what + ")", tree.fault(what), model.fault(what));
    }

    private void play() {
        due("play()", tree.play(), model.play());
    }
}
