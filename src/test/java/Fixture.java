import java.util.List;

/** A tree under test, and what the tests worked out by hand have in common. */
abstract class Fixture {
    static final int INVALID = SummedParents.INVALID_ARGUMENT;
    static final int IMPOSSIBLE = SummedParents.NOT_POSSIBLE;
    static final int LIMIT = SummedParents.LIMIT_REACHED;
    static final int NONE = SummedParents.NOT_FOUND;

    final Check check;
    final String where;
    SummedParents tree = new SummedParents();

    Fixture(Check check, String where) {
        this.check = check;
        this.where = where;
    }

    final void due(String call, int got, int want) {
        check.due(where + ": " + call, got, want);
    }

    final void dueContent(int block, int copy, int... want) {
        for (int place = 0; place < 4; place++) {
            due("content(" + block + ", " + copy + ", " + place + ")",
                    tree.content(block, copy, place), want[place]);
        }
    }

    final void dueContents(int block, int... want) {
        dueContent(block, 0, want);
        dueContent(block, 1, want);
    }

    final void dueCounts(int... want) {
        for (int what = 0; what < want.length; what++) {
            due("count(" + what + ")", tree.count(what), want[what]);
        }
    }

    final void dueWay(int root, int leaf, int... blocks) {
        for (int level = 0; level < blocks.length; level++) {
            due("way(" + root + ", " + leaf + ", " + level + ", 0)",
                    tree.way(root, leaf, level, 0), blocks[level]);
        }
    }

    final void dueFrom(int root, int leaf, int... copies) {
        for (int level = 0; level < copies.length; level++) {
            due("from(" + root + ", " + leaf + ", " + level + ")",
                    tree.from(root, leaf, level), copies[level]);
        }
    }

    final void type(String text) {
        for (char each : text.toCharArray()) {
            tree.type(each);
        }
    }

    final void dueFault(String text, int position, int reason, int cause) {
        tree.clearText();
        type(text);
        due("fault(0) of " + text, tree.fault(0), position);
        due("fault(1) of " + text, tree.fault(1), reason);
        due("fault(2) of " + text, tree.fault(2), cause);
    }

    final void dueNoFault(String text) {
        dueFault(text, NONE, NONE, NONE);
    }

    /** Values that are never in a range from 0 up to below an end. */
    static int[] outside(int end) {
        return new int[] {-1, end, Integer.MIN_VALUE, Integer.MAX_VALUE, end + 256, -end};
    }

    final void rotBoth(int block, int place, int value) {
        tree.rot(block, 0, place, value);
        tree.rot(block, 1, place, value);
    }

    final void rotAll(int block, int copy, int... numbers) {
        for (int place = 0; place < 4; place++) {
            tree.rot(block, copy, place, numbers[place]);
        }
    }

    /** Puts a number into a copy, and changes another one there so that the sum stays what it was. */
    final void forge(int block, int copy, int place, int number, int balancing) {
        int sum = tree.content(block, copy, 4);
        tree.rot(block, copy, place, number);
        int before = tree.content(block, copy, balancing);
        int step = before < 60000 ? 1 : -1;
        int difference = sum - tree.content(block, copy, 4);
        int units = 0;
        while (Math.floorMod((4 - balancing) * units * step - difference, 251) != 0) {
            units++;
        }
        tree.rot(block, copy, balancing, before + units * step);
        due("sum of a forged block", tree.content(block, copy, 4), sum);
    }

    final void forgeBoth(int block, int place, int number, int balancing) {
        forge(block, 0, place, number, balancing);
        forge(block, 1, place, number, balancing);
    }

    /** Writes values 1, 2 and so on at the leaf 0. */
    final void writeOften(int times) {
        for (int value = 1; value <= times; value++) {
            due("write(0, 0, " + value + ")", tree.write(0, 0, value), value - 1);
        }
    }

    /** Leaves the blocks that are told free, and no other one. */
    final void crowd(List<Integer> leftOut) {
        Crowd.fill(tree, leftOut);
        for (int root = 1; root < 5; root++) {
            due("from of a spoiled root", tree.from(root, 0, 0), 2);
        }
        due("free blocks of a crowd", tree.count(1), leftOut.size());
    }
}
