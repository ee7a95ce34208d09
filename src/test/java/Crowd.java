import java.util.ArrayList;
import java.util.List;

/** A way to a tree in which few blocks are free, or none. */
final class Crowd {
    private Crowd() {
    }

    /**
     * On a new tree: four older roots are spoiled and tell of all blocks that the latest one doesn't
     * have, but for those that are left out (of 36 to 95: no leaf or parent of the writes here tells
     * of them); then one root more is freed, so that the left out are the free ones. Some 110 calls.
     */
    static void fill(SummedParents tree, List<Integer> leftOut) {
        for (int value = 1; value < 6; value++) {
            tree.write(0, 0, value);
        }
        List<Integer> tellable = tellable();
        tellable.removeAll(leftOut);
        int next = 0;
        for (int root = 1; root < 5; root++) {
            int block = tree.rootOf(root, 1);
            for (int parent = 0; parent < 4; parent++) {
                int parentBlock = tellable.get(next++ % tellable.size());
                tree.rot(block, 0, parent, 256 * parentBlock + 255);
                for (int child = 0; child < 4; child++) {
                    int childBlock = tellable.get(next++ % tellable.size());
                    if (next <= tellable.size() + 4) {
                        tree.rot(parentBlock, 0, child, 256 * childBlock + 255);
                    }
                }
            }
            tree.rot(block, 1, 3, 3);
        }
        tree.free(5);
    }

    /** The latest root has 1 to 20 but for 16, and 33 to 35; the spoiled ones are in 32, 29, 26, 23. */
    private static List<Integer> tellable() {
        List<Integer> tellable = new ArrayList<>();
        for (int block = 0; block < 96; block++) {
            boolean latest = block > 0 && block < 20 && block != 16 || block > 32 && block < 36;
            boolean spoiled = block == 32 || block == 29 || block == 26 || block == 23;
            if (!latest && !spoiled) {
                tellable.add(block);
            }
        }
        return tellable;
    }
}
