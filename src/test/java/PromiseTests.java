import java.util.List;

/** Each promise by runs that are worked out by hand: ordinary inputs, edges and wrong inputs. */
public final class PromiseTests extends Fixture {
    private static final Check CHECK = new Check("promises");

    private PromiseTests(String where) {
        super(CHECK, where);
    }

    public static void main(String[] args) {
        new PromiseTests("1 new").newObject();
        new PromiseTests("1 two objects").twoObjects();
        new PromiseTests("2 write").write();
        new PromiseTests("2 write, lowest blocks").writeLowest();
        new PromiseTests("2 write, spoiled").writeSpoiled();
        new PromiseTests("2 write, eight roots").writeEightRoots();
        new PromiseTests("2 write, free blocks").writeFreeBlocks();
        new PromiseTests("2 write, wrong").writeWrong();
        new PromiseTests("3 mishap").mishap();
        new PromiseTests("3 torn").torn();
        new PromiseTests("3 lost").lost();
        new PromiseTests("3 swapped").swapped();
        new PromiseTests("3 once").mishapOnce();
        new PromiseTests("4 rot").rot();
        new PromiseTests("5 read").read();
        new PromiseTests("5 read, by chance").readByChance();
        new PromiseTests("6 from").from();
        new PromiseTests("7 way").way();
        new PromiseTests("8 content").content();
        new PromiseTests("9 mend").mend();
        new PromiseTests("9 mend, one block twice").mendTwice();
        new PromiseTests("10 scrub").scrub();
        new PromiseTests("10 scrub, order of leaves").scrubLeaves();
        new PromiseTests("10 scrub, order of roots").scrubRoots();
        new PromiseTests("11 leaves").leaves();
        new PromiseTests("12 free").free();
        new PromiseTests("12 free, rotten").freeRotten();
        new PromiseTests("13 back").back();
        new PromiseTests("14 rootOf").rootOf();
        new PromiseTests("15 unlike").unlike();
        new PromiseTests("15 unlike, spoiled").unlikeSpoiled();
        new PromiseTests("16 count").count();
        new PromiseTests("17 undo").undo();
        new PromiseTests("17 undo, all parts").undoAllParts();
        new PromiseTests("18 type").type();
        new PromiseTests("19 clearText").clearText();
        new PromiseTests("20 fault, form").faultForm();
        new PromiseTests("20 fault, target").faultTarget();
        new PromiseTests("20 fault, write").faultWrite();
        new PromiseTests("20 fault, what").faultWhat();
        new PromiseTests("21 play").play();
        new PromiseTests("21 play, mishap").playMishap();
        CHECK.end();
    }

    private void newObject() {
        dueCounts(1, 75, 0, 0, 0, 21, 0, 0);
        for (int leaf = 0; leaf < 16; leaf++) {
            for (int place = 0; place < 4; place++) {
                due("read(0, " + leaf + ", " + place + ")", tree.read(0, leaf, place), 0);
            }
            due("leaf's block", tree.way(0, leaf, 2, 0), leaf);
            due("leaf's sum", tree.way(0, leaf, 2, 1), 7);
            due("parent's block", tree.way(0, leaf, 1, 0), 16 + leaf / 4);
            due("root's block", tree.way(0, leaf, 0, 0), 20);
            due("root's sum", tree.way(0, leaf, 0, 1), 111);
        }
        for (int copy = 0; copy < 2; copy++) {
            tree = new SummedParents();
            dueContent(0, copy, 0, 0, 0, 0);
            dueContent(16, copy, 7, 263, 519, 775);
            dueContent(17, copy, 1031, 1287, 1543, 1799);
            dueContent(18, copy, 2055, 2311, 2567, 2823);
            dueContent(19, copy, 3079, 3335, 3591, 3847);
            dueContent(20, copy, 4223, 4428, 4633, 5089);
            for (int block = 21; block < 96; block++) {
                dueContent(block, copy, 0, 0, 0, 0);
            }
        }
        for (int what = 0; what < 5; what++) {
            due("rootOf(0, " + what + ")", tree.rootOf(0, what), new int[] {0, 20, 111, 21, 21}[what]);
        }
        due("undo()", tree.undo(), IMPOSSIBLE);
        due("fault(0)", tree.fault(0), NONE);
    }

    private void twoObjects() {
        SummedParents other = new SummedParents();
        tree.write(3, 2, 9);
        tree.type('1');
        tree.mishap(2);
        due("read of the other", other.read(0, 3, 2), 0);
        due("count(0) of the other", other.count(0), 1);
        due("count(2) of the other", other.count(2), 0);
        due("count(6) of the other", other.count(6), 0);
        due("count(7) of the other", other.count(7), 0);
        due("content of the other", other.content(21, 0, 2), 0);
    }

    private void write() {
        due("write(0, 0, 999)", tree.write(0, 0, 999), 0);
        // 4 * 999 + 7 = 4003 = 15 * 251 + 238
        dueContent(21, 0, 999, 0, 0, 0);
        dueContent(21, 1, 999, 0, 0, 0);
        due("content(21, 0, 4)", tree.content(21, 0, 4), 238);
        dueContent(22, 0, 256 * 21 + 238, 263, 519, 775);
        dueContent(22, 1, 256 * 21 + 238, 263, 519, 775);
        // 4 * 5614 + 3 * 263 + 2 * 519 + 775 + 7 = 25065 = 99 * 251 + 216
        due("content(22, 0, 4)", tree.content(22, 0, 4), 216);
        dueContent(23, 0, 256 * 22 + 216, 4428, 4633, 5089);
        // 4 * 5848 + 3 * 4428 + 2 * 4633 + 5089 + 7 = 51038 = 203 * 251 + 85
        due("rootOf(0, 2)", tree.rootOf(0, 2), 85);
        due("rootOf(0, 1)", tree.rootOf(0, 1), 23);
        dueCounts(2, 72, 0, 1, 0, 24, 1, 0);
        due("write(0, 0, 0)", tree.write(0, 0, 0), 999);
        due("write(0, 3, 7)", tree.write(0, 3, 7), 0);
        due("write(0, 3, 8)", tree.write(0, 3, 8), 7);
        due("write(15, 3, 999)", tree.write(15, 3, 999), 0);
        due("read(0, 0, 3)", tree.read(0, 0, 3), 8);
        due("read(1, 15, 3)", tree.read(1, 15, 3), 0);
        due("read(4, 0, 0)", tree.read(4, 0, 0), 999);
        due("read(5, 0, 0)", tree.read(5, 0, 0), 0);
        due("rootOf(0, 0)", tree.rootOf(0, 0), 5);
        dueCounts(6, 60, 0, 5, 0, 36, 3, 0);
        // The other values are those that are read, here from the copy 1.
        tree.rot(33, 0, 2, 5);
        due("from(0, 15, 2)", tree.from(0, 15, 2), 1);
        due("write(15, 0, 1)", tree.write(15, 0, 1), 0);
        dueContent(36, 0, 1, 0, 0, 999);
        dueContent(36, 1, 1, 0, 0, 999);
        // A value that rotted, with a sum that is right by chance.
        rotBoth(36, 3, 999 + 251 * 257);
        due("write(15, 3, 1)", tree.write(15, 3, 1), 65506);
    }

    private void writeLowest() {
        tree.write(0, 0, 1);
        tree.write(0, 0, 2);
        tree.write(0, 0, 3);
        due("free(2)", tree.free(2), 3);
        due("count(5)", tree.count(5), 21);
        tree.write(5, 0, 4);
        due("leaf", tree.way(0, 5, 2, 0), 21);
        due("parent", tree.way(0, 5, 1, 0), 22);
        due("root", tree.way(0, 5, 0, 0), 23);
        due("number", tree.rootOf(0, 0), 4);
        // The root 0 has the blocks 0, 16 and 20 for itself.
        due("free(3)", tree.free(3), 3);
        due("count(5)", tree.count(5), 0);
        tree.write(5, 0, 5);
        due("leaf", tree.way(0, 5, 2, 0), 0);
        due("parent", tree.way(0, 5, 1, 0), 16);
        due("root", tree.way(0, 5, 0, 0), 20);
        // What was in the blocks before is gone, in both copies.
        dueContent(0, 0, 5, 0, 0, 0);
        dueContent(0, 1, 5, 0, 0, 0);
        due("content(16, 0, 0)", tree.content(16, 0, 0), 1031);
        due("content(16, 1, 3)", tree.content(16, 1, 3), 1799);
        tree.write(5, 0, 6);
        due("leaf", tree.way(0, 5, 2, 0), 30);
    }

    private void writeSpoiled() {
        rotBoth(3, 0, 1);
        due("write(3, 1, 1), leaf", tree.write(3, 1, 1), IMPOSSIBLE);
        due("write(2, 1, 1)", tree.write(2, 1, 1), 0);
        due("write(3, 1, 1), leaf", tree.write(3, 1, 1), IMPOSSIBLE);
        rotBoth(17, 3, 1);
        due("write(4, 1, 1), parent", tree.write(4, 1, 1), IMPOSSIBLE);
        due("write(8, 1, 1)", tree.write(8, 1, 1), 0);
        int root = tree.rootOf(0, 1);
        rotBoth(root, 3, 1);
        tree.mishap(1);
        due("write(8, 1, 1), root", tree.write(8, 1, 1), IMPOSSIBLE);
        dueCounts(3, 69, 1, 2, 0, 27, 3, 0);
        due("count(2)", tree.count(2), 1);
        due("write(16, 0, 0)", tree.write(16, 0, 0), INVALID);
    }

    private void writeEightRoots() {
        for (int value = 1; value < 8; value++) {
            due("write(0, 0, " + value + ")", tree.write(0, 0, value), value - 1);
        }
        due("count(0)", tree.count(0), 8);
        due("write(0, 0, 8)", tree.write(0, 0, 8), LIMIT);
        due("write(0, 4, 8)", tree.write(0, 4, 8), INVALID);
        dueCounts(8, 54, 0, 7, 0, 42, 3, 0);
        // The limit is told ahead of what is read.
        rotBoth(tree.rootOf(0, 1), 0, 1);
        due("write(0, 0, 8), spoiled", tree.write(0, 0, 8), LIMIT);
        // 16 and 20 are free, and the leaf and the parent that the latest root tells no more; it tells 0.
        due("free(7)", tree.free(7), 4);
        due("write(0, 0, 8), spoiled", tree.write(0, 0, 8), IMPOSSIBLE);
    }

    private void writeFreeBlocks() {
        for (int free = 0; free <= 4; free++) {
            tree = new SummedParents();
            List<Integer> left = List.of(36, 40, 77, 95).subList(0, free);
            crowd(left);
            due("count(5)", tree.count(5), free == 0 ? NONE : left.get(0));
            due("write(9, 4, 8)", tree.write(9, 4, 8), INVALID);
            if (free < 3) {
                type("9.0=8;");
                due("write(9, 0, 8)", tree.write(9, 0, 8), LIMIT);
                due("fault(2)", tree.fault(2), LIMIT);
                rotBoth(tree.rootOf(0, 1), 2, 5);
                due("write(9, 0, 8), spoiled too", tree.write(9, 0, 8), LIMIT);
                continue;
            }
            tree.rot(tree.rootOf(0, 1), 0, 2, 5);
            tree.rot(tree.rootOf(0, 1), 1, 2, 5);
            due("write(9, 0, 8), spoiled", tree.write(9, 0, 8), IMPOSSIBLE);
            tree.undo();
            due("write(9, 0, 8)", tree.write(9, 0, 8), 0);
            for (int level = 0; level < 3; level++) {
                due("block " + level, tree.way(0, 9, level, 0), left.get(2 - level));
            }
            due("count(1)", tree.count(1), free - 3);
            due("count(5)", tree.count(5), free == 3 ? NONE : left.get(3));
            due("write(9, 0, 9)", tree.write(9, 0, 9), LIMIT);
        }
    }

    private void writeWrong() {
        for (int wrong : outside(16)) {
            due("write(" + wrong + ", 0, 0)", tree.write(wrong, 0, 0), INVALID);
        }
        for (int wrong : outside(4)) {
            due("write(0, " + wrong + ", 0)", tree.write(0, wrong, 0), INVALID);
        }
        for (int wrong : outside(1000)) {
            due("write(0, 0, " + wrong + ")", tree.write(0, 0, wrong), INVALID);
        }
        dueCounts(1, 75, 0, 0, 0, 21, 0, 0);
    }

    private void mishap() {
        due("mishap(3)", tree.mishap(3), 0);
        due("mishap(2)", tree.mishap(2), 3);
        due("mishap(1)", tree.mishap(1), 2);
        for (int wrong : outside(4)) {
            due("mishap(" + wrong + ")", tree.mishap(wrong), INVALID);
        }
        due("mishap(0)", tree.mishap(0), 1);
        due("mishap(0)", tree.mishap(0), 0);
        due("count(6)", tree.count(6), 3);
        due("undo()", tree.undo(), 2);
        due("undo()", tree.undo(), 1);
        due("count(2)", tree.count(2), 1);
    }

    private void torn() {
        tree.rot(21, 0, 0, 11);
        tree.rot(21, 0, 2, 13);
        tree.rot(21, 1, 3, 14);
        tree.write(5, 0, 1);
        tree.write(5, 1, 2);
        tree.write(5, 2, 3);
        tree.write(5, 3, 4);
        due("free(1)", tree.free(1), 3);
        dueContent(30, 0, 1, 2, 3, 4);
        tree.mishap(1);
        due("write(5, 3, 9)", tree.write(5, 3, 9), 4);
        // The block 27 had the leaf with the values 1, 2, 3, 0.
        dueContent(27, 0, 1, 2, 3, 0);
        dueContent(27, 1, 1, 2, 3, 9);
        due("parent's copies", tree.content(28, 0, 1), tree.content(28, 1, 1));
        due("sum that is told", tree.way(0, 5, 2, 1), tree.content(27, 1, 4));
        due("from(0, 5, 2)", tree.from(0, 5, 2), 1);
        tree.mishap(1);
        tree.write(5, 0, 8);
        // The block 33 was never laid; the first two numbers are as they should be.
        dueContent(33, 0, 8, 2, 0, 0);
        dueContent(33, 1, 8, 2, 3, 9);
        due("count(4)", tree.count(4), 2);
        due("read(0, 5, 3)", tree.read(0, 5, 3), 9);

        tree = new SummedParents();
        tree.rot(21, 0, 1, 11);
        tree.rot(21, 0, 2, 13);
        tree.rot(21, 1, 3, 14);
        tree.mishap(1);
        tree.write(5, 3, 9);
        dueContent(21, 0, 0, 0, 13, 0);
        dueContent(21, 1, 0, 0, 0, 9);
    }

    private void lost() {
        tree.rot(22, 0, 1, 4444);
        tree.mishap(2);
        due("write(0, 0, 999)", tree.write(0, 0, 999), 0);
        dueContent(21, 0, 999, 0, 0, 0);
        dueContent(21, 1, 999, 0, 0, 0);
        dueContent(22, 0, 0, 4444, 0, 0);
        dueContent(22, 1, 256 * 21 + 238, 263, 519, 775);
        dueContent(23, 0, 256 * 22 + 216, 4428, 4633, 5089);
        dueContent(23, 1, 256 * 22 + 216, 4428, 4633, 5089);
        due("from(0, 3, 1)", tree.from(0, 3, 1), 1);
        due("from(0, 0, 2)", tree.from(0, 0, 2), 0);
        due("count(2)", tree.count(2), 0);
        tree.write(0, 3, 4);
        tree.mishap(2);
        tree.write(0, 2, 3);
        dueContent(27, 0, 999, 0, 3, 4);
        dueContent(28, 0, 0, 0, 0, 0);
        dueContent(28, 1, tree.content(28, 1, 0), 263, 519, 775);
    }

    private void swapped() {
        tree.mishap(3);
        due("write(0, 0, 999)", tree.write(0, 0, 999), 0);
        dueContent(21, 0, 256 * 21 + 238, 263, 519, 775);
        dueContent(21, 1, 999, 0, 0, 0);
        dueContent(22, 0, 999, 0, 0, 0);
        dueContent(22, 1, 256 * 21 + 238, 263, 519, 775);
        dueContent(23, 0, 256 * 22 + 216, 4428, 4633, 5089);
        dueContent(23, 1, 256 * 22 + 216, 4428, 4633, 5089);
        due("rootOf(0, 2)", tree.rootOf(0, 2), 85);
        due("read(0, 0, 0)", tree.read(0, 0, 0), 999);
        due("count(4)", tree.count(4), 2);
        tree.write(0, 3, 4);
        tree.mishap(3);
        tree.write(0, 2, 3);
        dueContent(28, 0, 999, 0, 3, 4);
        dueContent(27, 1, 999, 0, 3, 4);
        dueContent(27, 0, tree.content(28, 1, 0), 263, 519, 775);
    }

    private void mishapOnce() {
        for (int kind = 1; kind < 4; kind++) {
            tree.mishap(kind);
            due("write(16, 0, 0)", tree.write(16, 0, 0), INVALID);
            due("count(2)", tree.count(2), kind);
            tree.write(1, 1, kind);
            due("count(2)", tree.count(2), 0);
            int unlike = tree.count(4);
            tree.write(1, 1, 9);
            due("count(4)", tree.count(4), unlike);
        }
        due("undo()", tree.undo(), 2);
        due("undo()", tree.undo(), 1);
        due("count(2)", tree.count(2), 3);
    }

    private void rot() {
        due("rot(0, 0, 0, 65535)", tree.rot(0, 0, 0, 65535), 0);
        due("rot(0, 0, 0, 1)", tree.rot(0, 0, 0, 1), 65535);
        due("rot(0, 1, 0, 2)", tree.rot(0, 1, 0, 2), 0);
        due("rot(95, 1, 3, 3)", tree.rot(95, 1, 3, 3), 0);
        due("rot(95, 1, 3, 3)", tree.rot(95, 1, 3, 3), 3);
        dueContent(0, 0, 1, 0, 0, 0);
        dueContent(0, 1, 2, 0, 0, 0);
        dueContent(95, 0, 0, 0, 0, 0);
        dueContent(95, 1, 0, 0, 0, 3);
        due("count(1)", tree.count(1), 75);
        due("count(6)", tree.count(6), 3);
        for (int wrong : outside(96)) {
            due("rot(" + wrong + ", 0, 0, 0)", tree.rot(wrong, 0, 0, 0), INVALID);
        }
        for (int wrong : outside(2)) {
            due("rot(0, " + wrong + ", 0, 0)", tree.rot(0, wrong, 0, 0), INVALID);
        }
        for (int wrong : outside(4)) {
            due("rot(0, 0, " + wrong + ", 0)", tree.rot(0, 0, wrong, 0), INVALID);
        }
        for (int wrong : outside(65536)) {
            due("rot(0, 0, 0, " + wrong + ")", tree.rot(0, 0, 0, wrong), INVALID);
        }
        due("undo()", tree.undo(), 2);
        due("undo()", tree.undo(), 1);
        dueContent(95, 1, 0, 0, 0, 0);
        due("undo()", tree.undo(), 0);
        dueContent(0, 1, 0, 0, 0, 0);
        dueContent(0, 0, 1, 0, 0, 0);
    }

    private void read() {
        tree.write(5, 2, 77);
        due("read(0, 5, 2)", tree.read(0, 5, 2), 77);
        due("read(1, 5, 2)", tree.read(1, 5, 2), 0);
        for (int wrong : outside(2)) {
            due("read(" + wrong + ", 5, 2)", tree.read(wrong, 5, 2), INVALID);
        }
        for (int wrong : outside(16)) {
            due("read(0, " + wrong + ", 2)", tree.read(0, wrong, 2), INVALID);
        }
        for (int wrong : outside(4)) {
            due("read(0, 5, " + wrong + ")", tree.read(0, 5, wrong), INVALID);
        }
        tree.rot(21, 0, 2, 78);
        due("read(0, 5, 2), copy 1", tree.read(0, 5, 2), 77);
        tree.rot(21, 1, 2, 79);
        due("read(0, 5, 2), leaf", tree.read(0, 5, 2), IMPOSSIBLE);
        due("read(0, 5, 4)", tree.read(0, 5, 4), INVALID);
        due("read(1, 5, 2)", tree.read(1, 5, 2), 0);
        rotBoth(22, 0, 9);
        due("read(0, 6, 0), parent", tree.read(0, 6, 0), IMPOSSIBLE);
        due("read(0, 8, 0)", tree.read(0, 8, 0), 0);
        rotBoth(23, 0, 9);
        due("read(0, 8, 0), root", tree.read(0, 8, 0), IMPOSSIBLE);
        due("read(1, 8, 0)", tree.read(1, 8, 0), 0);
        // What is read is not mended by that.
        due("content(21, 0, 2)", tree.content(21, 0, 2), 78);
    }

    private void readByChance() {
        tree.rot(7, 0, 3, 65511);
        due("read(0, 7, 3)", tree.read(0, 7, 3), 65511);
        due("from(0, 7, 2)", tree.from(0, 7, 2), 0);
        due("leaves(0, 1)", tree.leaves(0, 1), 1 << 7);
        due("leaves(0, 2)", tree.leaves(0, 2), 0);
        // A leaf of a block of 96 or more is spoiled, whatever its sum: 775 + 251 * 110 = 110 * 256 + 225.
        tree.rot(16, 0, 3, 775 + 251 * 110);
        due("from(0, 3, 1)", tree.from(0, 3, 1), 0);
        due("way(0, 3, 2, 0)", tree.way(0, 3, 2, 0), 110);
        due("way(0, 3, 2, 1)", tree.way(0, 3, 2, 1), 225);
        due("from(0, 3, 2)", tree.from(0, 3, 2), 2);
        due("read(0, 3, 0)", tree.read(0, 3, 0), IMPOSSIBLE);
        due("mend(0, 3)", tree.mend(0, 3), 1);
        due("content(16, 1, 3)", tree.content(16, 1, 3), 775 + 251 * 110);
        due("rootOf(0, 3)", tree.rootOf(0, 3), 20);
        // And 95 is none of these: 775 + 251 * 94 = 95 * 256 + 49, which is not the sum of the empty block 95.
        rotBoth(16, 3, 775 + 251 * 94);
        due("way(0, 3, 2, 0)", tree.way(0, 3, 2, 0), 95);
        due("from(0, 3, 2)", tree.from(0, 3, 2), 2);
        tree.rot(95, 1, 3, 42);
        due("from(0, 3, 2)", tree.from(0, 3, 2), 1);
        due("read(0, 3, 3)", tree.read(0, 3, 3), 42);
        // 3847 + 251 * 103 = 29700 = 116 * 256 + 4: the root tells a parent of 96 or more.
        rotBoth(20, 3, 5089 + 251 * 98);
        due("way(0, 15, 1, 0)", tree.way(0, 15, 1, 0), (5089 + 251 * 98) / 256);
        due("from(0, 15, 1)", tree.from(0, 15, 1), 2);
        due("from(0, 15, 2)", tree.from(0, 15, 2), NONE);
    }

    private void from() {
        for (int level = 0; level < 3; level++) {
            due("from(0, 9, " + level + ")", tree.from(0, 9, level), 0);
        }
        for (int wrong : outside(1)) {
            due("from(" + wrong + ", 9, 0)", tree.from(wrong, 9, 0), INVALID);
        }
        for (int wrong : outside(16)) {
            due("from(0, " + wrong + ", 0)", tree.from(0, wrong, 0), INVALID);
        }
        for (int wrong : outside(3)) {
            due("from(0, 9, " + wrong + ")", tree.from(0, 9, wrong), INVALID);
        }
        tree.rot(9, 0, 0, 1);
        due("from(0, 9, 2)", tree.from(0, 9, 2), 1);
        due("from(0, 8, 2)", tree.from(0, 8, 2), 0);
        tree.rot(18, 0, 0, 1);
        due("from(0, 9, 1)", tree.from(0, 9, 1), 1);
        due("from(0, 9, 2)", tree.from(0, 9, 2), 1);
        tree.rot(20, 0, 0, 1);
        due("from(0, 9, 0)", tree.from(0, 9, 0), 1);
        tree.rot(9, 1, 0, 1);
        due("from(0, 9, 2)", tree.from(0, 9, 2), 2);
        tree.rot(18, 1, 0, 1);
        due("from(0, 9, 1)", tree.from(0, 9, 1), 2);
        due("from(0, 9, 2)", tree.from(0, 9, 2), NONE);
        due("from(0, 3, 2)", tree.from(0, 3, 2), 0);
        tree.rot(20, 1, 0, 1);
        due("from(0, 9, 0)", tree.from(0, 9, 0), 2);
        due("from(0, 9, 1)", tree.from(0, 9, 1), NONE);
        due("from(0, 9, 2)", tree.from(0, 9, 2), NONE);
        due("from(0, 9, 3)", tree.from(0, 9, 3), INVALID);
    }

    private void way() {
        tree.write(5, 2, 77);
        due("way(0, 5, 0, 0)", tree.way(0, 5, 0, 0), 23);
        due("way(0, 5, 1, 0)", tree.way(0, 5, 1, 0), 22);
        due("way(0, 5, 2, 0)", tree.way(0, 5, 2, 0), 21);
        due("way(0, 5, 2, 1)", tree.way(0, 5, 2, 1), 161);
        due("way(0, 6, 2, 0)", tree.way(0, 6, 2, 0), 6);
        due("way(0, 6, 2, 1)", tree.way(0, 6, 2, 1), 7);
        due("way(1, 5, 1, 0)", tree.way(1, 5, 1, 0), 17);
        due("way(1, 5, 1, 1)", tree.way(1, 5, 1, 1), 76);
        due("way(1, 5, 0, 1)", tree.way(1, 5, 0, 1), 111);
        for (int wrong : outside(2)) {
            due("way(" + wrong + ", 5, 0, 0)", tree.way(wrong, 5, 0, 0), INVALID);
            due("way(0, 5, 0, " + wrong + ")", tree.way(0, 5, 0, wrong), INVALID);
        }
        for (int wrong : outside(16)) {
            due("way(0, " + wrong + ", 0, 0)", tree.way(0, wrong, 0, 0), INVALID);
        }
        for (int wrong : outside(3)) {
            due("way(0, 5, " + wrong + ", 0)", tree.way(0, 5, wrong, 0), INVALID);
        }
        rotBoth(21, 0, 5);
        due("way(0, 5, 2, 1), leaf spoiled", tree.way(0, 5, 2, 1), 161);
        rotBoth(22, 0, 5);
        due("way(0, 5, 1, 0), parent spoiled", tree.way(0, 5, 1, 0), 22);
        due("way(0, 5, 2, 0), parent spoiled", tree.way(0, 5, 2, 0), NONE);
        due("way(0, 5, 2, 1), parent spoiled", tree.way(0, 5, 2, 1), NONE);
        rotBoth(23, 0, 5);
        due("way(0, 9, 0, 0), root spoiled", tree.way(0, 9, 0, 0), 23);
        due("way(0, 9, 1, 1), root spoiled", tree.way(0, 9, 1, 1), NONE);
        due("way(0, 9, 2, 1), root spoiled", tree.way(0, 9, 2, 1), NONE);
        due("way(0, 9, 2, 2), root spoiled", tree.way(0, 9, 2, 2), INVALID);
    }

    private void content() {
        rotAll(40, 1, 65535, 65535, 65535, 65535);
        // 10 * 65535 + 7 = 655357 = 2610 * 251 + 247
        due("content(40, 1, 4)", tree.content(40, 1, 4), 247);
        due("content(40, 0, 4)", tree.content(40, 0, 4), 7);
        rotAll(40, 0, 1, 10, 100, 1000);
        // 4 + 30 + 200 + 1000 + 7 = 1241 = 4 * 251 + 237
        due("content(40, 0, 4)", tree.content(40, 0, 4), 237);
        dueContent(40, 0, 1, 10, 100, 1000);
        rotAll(40, 0, 61, 0, 0, 0);
        due("content(40, 0, 4)", tree.content(40, 0, 4), 0);
        for (int wrong : outside(96)) {
            due("content(" + wrong + ", 0, 0)", tree.content(wrong, 0, 0), INVALID);
        }
        for (int wrong : outside(2)) {
            due("content(0, " + wrong + ", 0)", tree.content(0, wrong, 0), INVALID);
        }
        for (int wrong : outside(5)) {
            due("content(0, 0, " + wrong + ")", tree.content(0, 0, wrong), INVALID);
        }
    }

    private void mend() {
        due("mend(0, 0)", tree.mend(0, 0), 0);
        due("count(6)", tree.count(6), 1);
        tree.rot(20, 0, 0, 1);
        tree.rot(16, 1, 1, 2);
        tree.rot(0, 0, 2, 3);
        tree.rot(1, 0, 2, 3);
        due("mend(0, 0)", tree.mend(0, 0), 3);
        dueContent(20, 0, 4223, 4428, 4633, 5089);
        dueContent(16, 1, 7, 263, 519, 775);
        dueContent(0, 0, 0, 0, 0, 0);
        dueContent(1, 0, 0, 0, 3, 0);
        due("mend(0, 0)", tree.mend(0, 0), 0);
        due("mend(0, 1)", tree.mend(0, 1), 1);
        // What is spoiled stays, what is above it is mended.
        tree.rot(20, 0, 0, 1);
        tree.rot(16, 0, 0, 5);
        tree.rot(0, 0, 2, 3);
        tree.rot(0, 1, 2, 4);
        due("mend(0, 0)", tree.mend(0, 0), 2);
        dueContent(0, 0, 0, 0, 3, 0);
        dueContent(0, 1, 0, 0, 4, 0);
        tree.rot(20, 1, 0, 1);
        tree.rot(16, 0, 0, 5);
        tree.rot(16, 1, 0, 6);
        due("mend(0, 0)", tree.mend(0, 0), 1);
        dueContent(20, 1, 4223, 4428, 4633, 5089);
        dueContent(16, 1, 6, 263, 519, 775);
        tree.rot(20, 0, 0, 1);
        tree.rot(20, 1, 0, 2);
        due("mend(0, 0)", tree.mend(0, 0), 0);
        due("content(20, 1, 0)", tree.content(20, 1, 0), 2);
        due("count(6)", tree.count(6), 3);
        due("undo()", tree.undo(), 2);
        due("undo()", tree.undo(), 1);
        due("content(20, 1, 0)", tree.content(20, 1, 0), 4223);
        for (int wrong : outside(1)) {
            due("mend(" + wrong + ", 0)", tree.mend(wrong, 0), INVALID);
        }
        for (int wrong : outside(16)) {
            due("mend(0, " + wrong + ")", tree.mend(0, wrong), INVALID);
        }
        due("count(6)", tree.count(6), 1);
        // Copies that are unlike with the sum right in both: the copy 0 is taken.
        tree = new SummedParents();
        tree.rot(0, 1, 3, 251);
        due("mend(0, 0)", tree.mend(0, 0), 1);
        due("content(0, 1, 3)", tree.content(0, 1, 3), 0);
        // By an older root.
        tree.write(0, 0, 5);
        tree.rot(0, 0, 0, 1);
        due("mend(0, 0)", tree.mend(0, 0), 0);
        due("mend(1, 0)", tree.mend(1, 0), 1);
    }

    /** The block 16 is the parent by its copy 0 and, by its copy 1, also the leaf 0. */
    private void twist() {
        // 4 * 4224 + 3 * 263 + 2 * 519 + 975 + 7 = 19705 = 78 * 251 + 127
        rotAll(16, 0, 256 * 16 + 128, 263, 519, 975);
        rotAll(16, 1, 7, 263, 519, 776);
        due("from(0, 0, 1)", tree.from(0, 0, 1), 0);
        due("from(0, 0, 2)", tree.from(0, 0, 2), 1);
        due("way(0, 0, 2, 0)", tree.way(0, 0, 2, 0), 16);
    }

    private void mendTwice() {
        twist();
        due("read(0, 0, 3)", tree.read(0, 0, 3), 776);
        due("mend(0, 0)", tree.mend(0, 0), 1);
        dueContent(16, 0, 7, 263, 519, 776);
        dueContent(16, 1, 7, 263, 519, 776);
        due("from(0, 0, 1)", tree.from(0, 0, 1), 2);
        due("mend(0, 0)", tree.mend(0, 0), 0);
    }

    private void scrub() {
        due("scrub()", tree.scrub(), 0);
        due("count(6)", tree.count(6), 1);
        tree.write(0, 0, 1);
        tree.rot(23, 0, 0, 9);
        tree.rot(22, 1, 0, 9);
        tree.rot(21, 0, 0, 9);
        tree.rot(20, 1, 0, 9);
        tree.rot(15, 0, 1, 9);
        tree.rot(19, 1, 1, 9);
        tree.rot(40, 1, 1, 9);
        rotBoth(7, 0, 1);
        tree.rot(7, 1, 0, 2);
        due("count(4)", tree.count(4), 7);
        due("scrub()", tree.scrub(), 6);
        due("count(4)", tree.count(4), 1);
        dueContent(15, 0, 0, 0, 0, 0);
        dueContent(21, 0, 1, 0, 0, 0);
        dueContent(40, 1, 0, 9, 0, 0);
        dueContent(7, 1, 2, 0, 0, 0);
        due("leaves(0, 0)", tree.leaves(0, 0), 1 << 7);
        due("leaves(1, 1)", tree.leaves(1, 1), 0);
        due("undo()", tree.undo(), 2);
        due("count(4)", tree.count(4), 7);
    }

    private void scrubLeaves() {
        twist();
        tree.rot(1, 1, 0, 9);
        due("scrub()", tree.scrub(), 1);
        // By the leaf 0 the parent is spoiled before the leaf 1 is come to.
        dueContent(1, 1, 9, 0, 0, 0);
        due("leaves(0, 0)", tree.leaves(0, 0), 15);
    }

    private void scrubRoots() {
        tree.write(4, 0, 1);
        int last = tree.content(23, 0, 3);
        // The latest root knows the block 16 by the sum of its copy 1, the older by that of its copy 0.
        rotBoth(23, 0, 4224);
        rotBoth(23, 3, last - 4);
        tree.rot(16, 1, 3, 776);
        due("from(0, 0, 1)", tree.from(0, 0, 1), 1);
        due("from(1, 0, 1)", tree.from(1, 0, 1), 0);
        due("leaves(0, 0)", tree.leaves(0, 0), 0xF000 | 8);
        due("leaves(1, 0)", tree.leaves(1, 0), 0);
        due("scrub()", tree.scrub(), 1);
        due("leaves(0, 0)", tree.leaves(0, 0), 0xF000 | 8);
        due("leaves(1, 0)", tree.leaves(1, 0), 15);
    }

    private void leaves() {
        for (int what = 0; what < 3; what++) {
            due("leaves(0, " + what + ")", tree.leaves(0, what), 0);
        }
        tree.rot(3, 1, 0, 1);
        tree.rot(4, 0, 0, 1);
        due("leaves(0, 0)", tree.leaves(0, 0), 0);
        due("leaves(0, 1)", tree.leaves(0, 1), 8 + 16);
        due("leaves(0, 2)", tree.leaves(0, 2), 16);
        tree.rot(19, 0, 0, 1);
        due("leaves(0, 1)", tree.leaves(0, 1), 0xF000 + 8 + 16);
        due("leaves(0, 2)", tree.leaves(0, 2), 0xF000 + 16);
        rotBoth(15, 0, 1);
        due("leaves(0, 0)", tree.leaves(0, 0), 0x8000);
        due("leaves(0, 1)", tree.leaves(0, 1), 0x7000 + 8 + 16);
        due("leaves(0, 2)", tree.leaves(0, 2), 0x7000 + 16);
        rotBoth(18, 0, 1);
        due("leaves(0, 0)", tree.leaves(0, 0), 0x8F00);
        tree.rot(20, 0, 0, 1);
        due("leaves(0, 1)", tree.leaves(0, 1), 0x70FF);
        due("leaves(0, 2)", tree.leaves(0, 2), 0x70FF);
        tree.write(0, 0, 1);
        due("leaves(0, 1)", tree.leaves(0, 1), 0x7018);
        due("leaves(1, 1)", tree.leaves(1, 1), 0x70FF);
        for (int wrong : outside(2)) {
            due("leaves(" + wrong + ", 0)", tree.leaves(wrong, 0), INVALID);
        }
        for (int wrong : outside(3)) {
            due("leaves(0, " + wrong + ")", tree.leaves(0, wrong), INVALID);
        }
        tree.rot(23, 0, 0, 1);
        tree.rot(23, 1, 0, 2);
        due("leaves(0, 0)", tree.leaves(0, 0), 0xFFFF);
        due("leaves(0, 1)", tree.leaves(0, 1), 0);
        due("leaves(0, 2)", tree.leaves(0, 2), 0);
    }

    private void free() {
        due("free(0)", tree.free(0), IMPOSSIBLE);
        tree.write(0, 0, 1);
        tree.write(4, 0, 2);
        tree.write(0, 0, 3);
        due("free(0)", tree.free(0), IMPOSSIBLE);
        for (int wrong : outside(4)) {
            due("free(" + wrong + ")", tree.free(wrong), INVALID);
        }
        due("count(6)", tree.count(6), 3);
        // The root 1 has for itself its root block alone: leaf and parent are shared with the root 2.
        due("free(2)", tree.free(2), 1);
        dueCounts(3, 67, 0, 3, 0, 23, 3, 0);
        due("rootOf(1, 0)", tree.rootOf(1, 0), 2);
        due("rootOf(2, 0)", tree.rootOf(2, 0), 0);
        due("free(1)", tree.free(1), 3);
        due("free(1)", tree.free(1), 5);
        due("free(1)", tree.free(1), INVALID);
        due("free(0)", tree.free(0), IMPOSSIBLE);
        dueCounts(1, 75, 0, 3, 0, 0, 3, 0);
        due("read(0, 4, 0)", tree.read(0, 4, 0), 2);
        due("read(0, 0, 0)", tree.read(0, 0, 0), 3);
        due("undo()", tree.undo(), 2);
        due("count(0)", tree.count(0), 2);
        due("count(1)", tree.count(1), 70);
    }

    private void freeRotten() {
        tree.write(0, 0, 1);
        tree.write(0, 0, 2);
        // The root 1 is spoiled in both copies; its copy 0 tells blocks that were free, its copy 1 none of them.
        tree.rot(23, 0, 1, 256 * 90 + 7);
        tree.rot(90, 1, 2, 256 * 91);
        tree.rot(90, 0, 0, 256 * 92);
        tree.rot(90, 0, 1, 256 * 96);
        tree.rot(23, 1, 2, 0);
        due("from(1, 0, 0)", tree.from(1, 0, 0), 2);
        due("count(1)", tree.count(1), 69);
        // Neither copy of 90 has the sum 7, so the copy 0 tells 92, 0 and 0 (and not 96).
        due("rootOf(1, 3)", tree.rootOf(1, 3), 1 + 4 + 12 + 2);
        due("rootOf(1, 4)", tree.rootOf(1, 4), 5);
        // 16 and 20 are free by that, 0 is not; and 90 and 92 are in use.
        due("free(2)", tree.free(2), 2);
        due("count(1)", tree.count(1), 69);
        due("count(5)", tree.count(5), 16);
        due("count(4)", tree.count(4), 2);
        // Now the sum that is told is that of the copy 1.
        int told = tree.content(90, 1, 4);
        // 2 * 256 * 91 + 7 = 46599 = 185 * 251 + 164
        due("sum", told, 164);
        tree.rot(23, 0, 1, 256 * 90 + told);
        // The copy 1 tells 91 and 0, which is of this root alone by now: 23, 22, 21, 90, 91 and 0.
        due("rootOf(1, 4)", tree.rootOf(1, 4), 6);
        due("back(0)", tree.back(0), 0);
        due("count(1)", tree.count(1), 69);
        due("count(5)", tree.count(5), 16);
        // Of these 91 was not in use, but 92 was.
        due("free(1)", tree.free(1), 6);
        due("count(1)", tree.count(1), 75);
    }

    private void back() {
        due("back(0)", tree.back(0), 0);
        due("count(6)", tree.count(6), 1);
        tree.write(0, 0, 1);
        tree.write(4, 0, 2);
        tree.write(0, 0, 3);
        for (int wrong : outside(4)) {
            due("back(" + wrong + ")", tree.back(wrong), INVALID);
        }
        due("back(2)", tree.back(2), 6);
        dueCounts(2, 72, 0, 3, 0, 24, 3, 0);
        due("rootOf(0, 0)", tree.rootOf(0, 0), 1);
        due("rootOf(1, 0)", tree.rootOf(1, 0), 0);
        due("read(0, 0, 0)", tree.read(0, 0, 0), 1);
        due("read(0, 4, 0)", tree.read(0, 4, 0), 0);
        tree.write(1, 0, 9);
        due("rootOf(0, 0)", tree.rootOf(0, 0), 4);
        due("back(2)", tree.back(2), 6);
        dueCounts(1, 75, 0, 4, 0, 21, 3, 0);
        due("back(1)", tree.back(1), INVALID);
        due("undo()", tree.undo(), 2);
        due("rootOf(0, 0)", tree.rootOf(0, 0), 4);
        // By the index 0 blocks in use stay, though the root tells of them no more.
        rotBoth(tree.rootOf(0, 1), 0, 0);
        due("rootOf(0, 3)", tree.rootOf(0, 3), 16 + 1);
        int free = tree.count(1);
        due("back(0)", tree.back(0), 0);
        due("count(1)", tree.count(1), free);
    }

    private void rootOf() {
        tree.write(0, 0, 999);
        tree.write(4, 0, 2);
        int[] latest = {2, 26, tree.content(26, 0, 4), 21, 3};
        int[] middle = {1, 23, 85, 21, 1};
        int[] oldest = {0, 20, 111, 21, 3};
        for (int what = 0; what < 5; what++) {
            due("rootOf(0, " + what + ")", tree.rootOf(0, what), latest[what]);
            due("rootOf(1, " + what + ")", tree.rootOf(1, what), middle[what]);
            due("rootOf(2, " + what + ")", tree.rootOf(2, what), oldest[what]);
            for (int wrong : outside(3)) {
                due("rootOf(" + wrong + ", " + what + ")", tree.rootOf(wrong, what), INVALID);
            }
        }
        for (int wrong : outside(5)) {
            due("rootOf(0, " + wrong + ")", tree.rootOf(0, wrong), INVALID);
        }
        // A rotten copy 0 is not followed if the copy 1 is right.
        tree.rot(26, 0, 3, 0);
        due("rootOf(0, 3)", tree.rootOf(0, 3), 21);
        tree.rot(19, 0, 3, 0);
        due("rootOf(0, 3)", tree.rootOf(0, 3), 21);
        // If none is right, the copy 0 is: the parent 3 with its leaves is no longer told, but for 0.
        tree.rot(26, 1, 3, 1);
        due("rootOf(0, 3)", tree.rootOf(0, 3), 21 - 5 + 1);
        due("rootOf(0, 2)", tree.rootOf(0, 2), latest[2]);
        // Blocks of 96 or more are left out.
        tree.rot(26, 0, 3, 256 * 96);
        due("rootOf(0, 3)", tree.rootOf(0, 3), 21 - 5);
        tree.rot(26, 0, 3, 256 * 95);
        due("rootOf(0, 3)", tree.rootOf(0, 3), 21 - 5 + 2);
        due("rootOf(0, 4)", tree.rootOf(0, 4), 3 + 1);
    }

    private void unlike() {
        due("unlike(0, 0)", tree.unlike(0, 0), 0);
        tree.write(0, 0, 1);
        tree.write(15, 0, 1);
        tree.write(6, 0, 1);
        tree.write(6, 0, 0);
        due("unlike(0, 4)", tree.unlike(0, 4), 0x8041);
        due("unlike(4, 0)", tree.unlike(4, 0), 0x8041);
        due("unlike(0, 2)", tree.unlike(0, 2), 0x0040);
        due("unlike(0, 3)", tree.unlike(0, 3), 0x8040);
        due("unlike(2, 3)", tree.unlike(2, 3), 0x8000);
        due("unlike(3, 3)", tree.unlike(3, 3), 0);
        for (int wrong : outside(5)) {
            due("unlike(" + wrong + ", 0)", tree.unlike(wrong, 0), INVALID);
            due("unlike(0, " + wrong + ")", tree.unlike(0, wrong), INVALID);
        }
        due("count(6)", tree.count(6), 3);
    }

    private void unlikeSpoiled() {
        tree.write(0, 0, 1);
        tree.write(4, 0, 1);
        // What is the same is not looked at, nor are leaves.
        rotBoth(19, 0, 5);
        rotBoth(21, 0, 5);
        due("unlike(0, 2)", tree.unlike(0, 2), 0x0011);
        due("unlike(0, 1)", tree.unlike(0, 1), 0x0010);
        rotBoth(22, 0, 5);
        due("unlike(0, 1), the same parent", tree.unlike(0, 1), 0x0010);
        due("unlike(0, 2), parent", tree.unlike(0, 2), IMPOSSIBLE);
        due("unlike(2, 0), parent", tree.unlike(2, 0), IMPOSSIBLE);
        due("unlike(2, 3)", tree.unlike(2, 3), INVALID);
        tree.rot(26, 0, 0, 5);
        due("unlike(0, 1), copy 1", tree.unlike(0, 1), 0x0010);
        tree.rot(26, 1, 0, 5);
        due("unlike(0, 1), root", tree.unlike(0, 1), IMPOSSIBLE);
        due("unlike(1, 0), root", tree.unlike(1, 0), IMPOSSIBLE);
        due("unlike(0, 0)", tree.unlike(0, 0), 0);
    }

    private void count() {
        dueCounts(1, 75, 0, 0, 0, 21, 0, 0);
        for (int wrong : outside(8)) {
            due("count(" + wrong + ")", tree.count(wrong), INVALID);
        }
        tree.write(0, 0, 1);
        tree.write(0, 0, 2);
        tree.mishap(3);
        tree.type('a');
        tree.type('b');
        dueCounts(3, 69, 3, 2, 0, 27, 3, 2);
        tree.rot(90, 0, 0, 1);
        due("count(4), a free block", tree.count(4), 0);
        tree.rot(0, 0, 0, 1);
        due("count(4), of an older root", tree.count(4), 1);
        tree.write(0, 1, 3);
        dueCounts(4, 66, 0, 3, 3, 30, 3, 2);
        tree.free(3);
        dueCounts(3, 69, 0, 3, 2, 0, 3, 2);
        tree.back(2);
        dueCounts(1, 75, 0, 3, 0, 0, 3, 2);
        // 0, 16 and 20 are free by now, so are those after 23.
        tree.write(1, 1, 1);
        due("count(5)", tree.count(5), 24);
        due("rootOf(0, 1)", tree.rootOf(0, 1), 20);
    }

    private void undo() {
        due("undo()", tree.undo(), IMPOSSIBLE);
        for (int value = 1; value < 6; value++) {
            tree.write(0, 0, value);
            due("count(6)", tree.count(6), Math.min(value, 3));
        }
        tree.write(0, 0, 1000);
        due("undo()", tree.undo(), 2);
        due("read(0, 0, 0)", tree.read(0, 0, 0), 4);
        due("undo()", tree.undo(), 1);
        due("undo()", tree.undo(), 0);
        due("read(0, 0, 0)", tree.read(0, 0, 0), 2);
        due("undo()", tree.undo(), IMPOSSIBLE);
        dueCounts(3, 69, 0, 2, 0, 27, 0, 0);
        due("rootOf(0, 0)", tree.rootOf(0, 0), 2);
        tree.write(0, 0, 9);
        due("rootOf(0, 0)", tree.rootOf(0, 0), 3);
        due("undo()", tree.undo(), 0);
        due("read(0, 0, 0)", tree.read(0, 0, 0), 2);
    }

    private void undoAllParts() {
        tree.write(0, 0, 1);
        type("1.0=1;x");
        tree.mishap(2);
        tree.write(1, 0, 1);
        tree.free(2);
        due("count(6)", tree.count(6), 3);
        // The text is no change and stays.
        tree.clearText();
        type("2.0=2;");
        due("count(6)", tree.count(6), 3);
        due("undo()", tree.undo(), 2);
        dueCounts(3, 69, 0, 2, 1, 27, 2, 6);
        due("undo()", tree.undo(), 1);
        dueCounts(2, 72, 2, 1, 0, 24, 1, 6);
        dueContent(24, 0, 0, 0, 0, 0);
        due("play()", tree.play(), 1);
        due("count(6)", tree.count(6), 2);
        due("from(0, 2, 1)", tree.from(0, 2, 1), 1);
        due("undo()", tree.undo(), 1);
        dueContent(25, 1, 0, 0, 0, 0);
        due("count(2)", tree.count(2), 2);
        due("undo()", tree.undo(), 0);
        due("count(2)", tree.count(2), 0);
        due("undo()", tree.undo(), IMPOSSIBLE);
        due("count(7)", tree.count(7), 6);
        due("count(3)", tree.count(3), 1);
    }

    private void type() {
        for (int wrong : new int[] {31, 127, -1, 0, 256 + 65, Integer.MIN_VALUE, Integer.MAX_VALUE}) {
            due("type(" + wrong + ")", tree.type(wrong), INVALID);
        }
        for (int length = 1; length <= 60; length++) {
            due("type", tree.type(length % 2 == 0 ? 32 : 126), length);
        }
        due("type(65)", tree.type(65), LIMIT);
        due("type(31)", tree.type(31), INVALID);
        due("type(127)", tree.type(127), INVALID);
        dueCounts(1, 75, 0, 0, 0, 21, 0, 60);
        due("fault(1)", tree.fault(1), 1);
        due("fault(2)", tree.fault(2), 0);
    }

    private void clearText() {
        due("clearText()", tree.clearText(), 0);
        type("123");
        due("clearText()", tree.clearText(), 3);
        due("count(7)", tree.count(7), 0);
        due("fault(0)", tree.fault(0), NONE);
        due("type(65)", tree.type(65), 1);
        due("clearText()", tree.clearText(), 1);
        for (int length = 1; length <= 60; length++) {
            tree.type('0');
        }
        due("clearText()", tree.clearText(), 60);
        due("count(6)", tree.count(6), 0);
    }

    private void faultForm() {
        dueFault("", NONE, NONE, NONE);
        dueFault("1.0=1;", NONE, NONE, NONE);
        dueFault("01.3=001;15.0=999;0.0=00;", NONE, NONE, NONE);
        dueFault(";", 0, 1, 0);
        dueFault(" 1.0=1;", 0, 1, 0);
        dueFault("1", 0, 1, 1);
        dueFault("12", 0, 1, 2);
        dueFault("123.0=1;", 0, 1, 2);
        dueFault("1x", 0, 1, 1);
        dueFault(".0=1;", 0, 1, 0);
        dueFault("1.", 0, 1, 2);
        dueFault("1.=1;", 0, 1, 2);
        dueFault("1.12=1;", 0, 1, 3);
        dueFault("1.1", 0, 1, 3);
        dueFault("1.1;", 0, 1, 3);
        dueFault("1.1=", 0, 1, 4);
        dueFault("1.1=;", 0, 1, 4);
        dueFault("1.1=-1;", 0, 1, 4);
        dueFault("1.1=999", 0, 1, 7);
        dueFault("1.1=9990;", 0, 1, 7);
        dueFault("1.1=0001;", 0, 1, 7);
        dueFault("1.1=9.", 0, 1, 5);
        dueFault("1.1=9;;", 6, 1, 0);
        dueFault("1.1=9; ", 6, 1, 0);
        dueFault("1.1=9;2", 6, 1, 1);
        dueFault("1.1=9;02.1=99;3.3=7:", 14, 1, 5);
        dueFault("1.1=9;/.1=9;", 6, 1, 0);
        // A form that breaks off is told ahead of a leaf that there isn't.
        dueFault("99.9=1", 0, 1, 6);
        dueFault("1.0=1;1.0=1;1.0=1;1.0=1;1.0=1;1.0=1;1.0=1;16", 42, 1, 2);
        due("count(6)", tree.count(6), 0);
        due("count(3)", tree.count(3), 0);
    }

    private void faultTarget() {
        dueFault("15.3=1;", NONE, NONE, NONE);
        dueFault("16.0=1;", 0, 2, NONE);
        dueFault("99.0=1;", 0, 2, NONE);
        dueFault("0.4=1;", 0, 2, NONE);
        dueFault("0.9=1;", 0, 2, NONE);
        dueFault("1.0=1;16.4=1;x", 6, 2, NONE);
        // The first write that is not possible counts, whatever its reason.
        dueFault("16.0=1;x", 0, 2, NONE);
        rotBoth(20, 0, 1);
        dueFault("16.0=1;", 0, 2, NONE);
        dueFault("1.0=1;16.0=1;", 0, 3, IMPOSSIBLE);
    }

    private void faultWrite() {
        rotBoth(3, 0, 1);
        dueFault("2.0=1;3.0=1;", 6, 3, IMPOSSIBLE);
        dueFault("03.0=1;x", 0, 3, IMPOSSIBLE);
        dueFault("2.0=1;", NONE, NONE, NONE);
        String seven = "0.0=1;".repeat(7);
        dueFault(seven, NONE, NONE, NONE);
        dueFault(seven + "0.0=1;", 42, 3, LIMIT);
        dueFault(seven + "3.0=1;", 42, 3, LIMIT);
        tree.write(0, 0, 5);
        dueFault(seven, 36, 3, LIMIT);
        due("count(0)", tree.count(0), 2);
        due("count(3)", tree.count(3), 1);
        due("read(0, 0, 0)", tree.read(0, 0, 0), 5);
        dueContent(24, 0, 0, 0, 0, 0);
        // What a mishap does to the writes ahead is seen: a torn leaf whose sum is right by chance.
        tree = new SummedParents();
        tree.rot(21, 0, 3, 251);
        tree.mishap(1);
        dueFault("9.0=1;9.1=2;", NONE, NONE, NONE);
        due("play()", tree.play(), 2);
        due("read(0, 9, 3)", tree.read(0, 9, 3), 251);
        due("read(1, 9, 3)", tree.read(1, 9, 3), 251);
    }

    private void faultWhat() {
        for (int wrong : outside(3)) {
            due("fault(" + wrong + ")", tree.fault(wrong), INVALID);
        }
        type("x");
        for (int wrong : outside(3)) {
            due("fault(" + wrong + ")", tree.fault(wrong), INVALID);
        }
        due("fault(1)", tree.fault(1), 1);
    }

    private void play() {
        due("play()", tree.play(), 0);
        due("count(6)", tree.count(6), 1);
        type("3.1=250;3.1=0;15.0=7;");
        due("play()", tree.play(), 3);
        dueCounts(4, 66, 0, 3, 0, 30, 2, 21);
        due("read(0, 3, 1)", tree.read(0, 3, 1), 0);
        due("read(2, 3, 1)", tree.read(2, 3, 1), 250);
        due("read(0, 15, 0)", tree.read(0, 15, 0), 7);
        due("read(1, 15, 0)", tree.read(1, 15, 0), 0);
        due("rootOf(0, 0)", tree.rootOf(0, 0), 3);
        due("play()", tree.play(), 3);
        due("count(0)", tree.count(0), 7);
        due("play()", tree.play(), IMPOSSIBLE);
        dueCounts(7, 57, 0, 6, 0, 39, 3, 21);
        due("undo()", tree.undo(), 2);
        due("undo()", tree.undo(), 1);
        dueCounts(1, 75, 0, 0, 0, 21, 1, 21);
        tree.type('x');
        due("play(), form", tree.play(), IMPOSSIBLE);
        tree.clearText();
        type("16.0=0;");
        due("play(), leaf", tree.play(), IMPOSSIBLE);
        tree.clearText();
        type("1.0=1;2.0=2;");
        rotBoth(2, 0, 1);
        due("play(), spoiled", tree.play(), IMPOSSIBLE);
        due("count(0)", tree.count(0), 1);
        due("count(7)", tree.count(7), 12);
    }

    private void playMishap() {
        tree.mishap(2);
        type("1.0=1;2.0=2;");
        due("fault(0)", tree.fault(0), NONE);
        due("count(2)", tree.count(2), 2);
        due("play()", tree.play(), 2);
        due("count(2)", tree.count(2), 0);
        due("from(1, 1, 1)", tree.from(1, 1, 1), 1);
        due("from(0, 1, 1)", tree.from(0, 1, 1), 0);
        due("count(4)", tree.count(4), 1);
        tree.mishap(3);
        tree.clearText();
        due("play()", tree.play(), 0);
        due("count(2)", tree.count(2), 3);
    }
}
