import java.util.List;
import java.util.function.Consumer;

/** The sentences of the document's promises 1 to 21 that name a boundary case: each one has a test here. */
public final class EdgePromiseTests extends Fixture {
    private static final Check CHECK = new Check("edges of the promises");

    private EdgePromiseTests(String sentence) {
        super(CHECK, sentence);
    }

    private static void test(String sentence, Consumer<EdgePromiseTests> body) {
        body.accept(new EdgePromiseTests(sentence));
    }

    public static void main(String[] args) {
        writing();
        reading();
        mending();
        roots();
        texts();
        CHECK.end();
    }

    private static void writing() {
        test("1: a tree whose values are 0", EdgePromiseTests::allZero);
        test("2: the value that was there", EdgePromiseTests::valueBefore);
        test("2: a value that is there already", EdgePromiseTests::sameValue);
        test("2: LIMIT_REACHED if there are 8 roots, or fewer than three free blocks", EdgePromiseTests::writeLimits);
        test("3: 0: none; 1: torn; 2: lost; 3: swapped", EdgePromiseTests::mishapKinds);
        test("3: which one it was", EdgePromiseTests::mishapBefore);
        test("4: the number that was there", EdgePromiseTests::rotBefore);
        test("4: a block, 0 to 95", EdgePromiseTests::rotBlocks);
    }

    private static void reading() {
        test("5: index of a root, leaf, place", EdgePromiseTests::readEdges);
        test("5: NOT_POSSIBLE if it is spoiled", EdgePromiseTests::readSpoiled);
        test("6: 2: neither; NOT_FOUND if a block above it is spoiled", EdgePromiseTests::fromSpoiled);
        test("7: as its parent tells; NOT_FOUND if a block above it is spoiled", EdgePromiseTests::waySpoiled);
        test("7: a block and a sum that there can't be", EdgePromiseTests::wayBeyond);
        test("8: place 0 to 3, or 4: its sum", EdgePromiseTests::contentPlaces);
    }

    private static void mending() {
        test("9: in how many of the blocks that are mended", EdgePromiseTests::mendCounts);
        test("9: as far as they are not spoiled", EdgePromiseTests::mendAsFar);
        test("10: none, and all", EdgePromiseTests::scrubCounts);
        test("10: each block once", EdgePromiseTests::scrubOnce);
        test("10: all blocks of all roots, as far as they are not spoiled", EdgePromiseTests::scrubAsFar);
        test("10: all roots of the list, and none that is gone", EdgePromiseTests::scrubOfTheList);
        test("11: the empty set and the full one", EdgePromiseTests::leavesFull);
        test("11: the first leaf and the last one", EdgePromiseTests::leavesEnds);
        test("11: not spoiled, but", EdgePromiseTests::leavesNotSpoiled);
    }

    private static void roots() {
        test("12: NOT_POSSIBLE if it is the latest one", EdgePromiseTests::freeLatest);
        test("12: how many blocks that were in use are free by that", EdgePromiseTests::freeBlocks);
        test("13: by the index 0 nothing goes, and blocks in use stay", EdgePromiseTests::backToLatest);
        test("13: all later ones are gone from the list", EdgePromiseTests::backToOldest);
        test("14: how many of these belong to it alone", EdgePromiseTests::belongAlone);
        test("14: of eight roots", EdgePromiseTests::rootOfEight);
        test("15: no leaf and all leaves", EdgePromiseTests::unlikeSets);
        test("15: without going further down where a block is the same", EdgePromiseTests::unlikeSame);
        test("15: NOT_POSSIBLE if a block that has to be looked at is spoiled", EdgePromiseTests::unlikeSpoiled);
        test("16: 0: roots in the list", EdgePromiseTests::countRoots);
        test("16: 1: free blocks; 5: NOT_FOUND if none is free", EdgePromiseTests::countFree);
        test("16: 2: the mishap; 3: writes so far", EdgePromiseTests::countWrites);
        test("16: 4: blocks in use whose copies are unlike", EdgePromiseTests::countUnlike);
        test("16: 6: states; 7: the length of the text", EdgePromiseTests::countStates);
        test("17: NOT_POSSIBLE if it is empty", EdgePromiseTests::undoEmpty);
        test("17: which is removed from it", EdgePromiseTests::undoRemoves);
    }

    private static void texts() {
        test("18: character, 32 to 126", EdgePromiseTests::typeCharacters);
        test("18: LIMIT_REACHED if it has 60 characters", EdgePromiseTests::typeLimit);
        test("19: the length it had", EdgePromiseTests::clearTextLength);
        test("20: NOT_FOUND if the text has no fault (also if it is empty)", EdgePromiseTests::noFault);
        test("20: NOT_FOUND for 2 if the reason is 2", EdgePromiseTests::noCause);
        test("21: all writes of the text, which stays", EdgePromiseTests::playStays);
        test("21: one change, also if there are none", EdgePromiseTests::playOneChange);
        test("21: NOT_POSSIBLE if it has a fault", EdgePromiseTests::playFault);
    }

    // ---- writes.

    private void allZero() {
        for (int leaf = 0; leaf < 16; leaf++) {
            for (int place = 0; place < 4; place++) {
                due("read(0, " + leaf + ", " + place + ")", tree.read(0, leaf, place), 0);
            }
        }
        for (int what = 0; what < 3; what++) {
            due("leaves(0, " + what + ")", tree.leaves(0, what), 0);
        }
        dueCounts(1, 75, 0, 0, 0, 21, 0, 0);
        tree.write(0, 0, 1);
        tree.type('x');
        tree = new SummedParents();
        dueCounts(1, 75, 0, 0, 0, 21, 0, 0);
        due("read(0, 0, 0) of another one", tree.read(0, 0, 0), 0);
    }

    private void valueBefore() {
        due("write(0, 0, 999)", tree.write(0, 0, 999), 0);
        due("write(0, 0, 0)", tree.write(0, 0, 0), 999);
        due("write(15, 3, 1)", tree.write(15, 3, 1), 0);
        due("write(15, 3, 2)", tree.write(15, 3, 2), 1);
        // Of an older root another one was there.
        tree.back(3);
        due("write(0, 0, 5)", tree.write(0, 0, 5), 999);
    }

    private void sameValue() {
        due("write(0, 0, 0)", tree.write(0, 0, 0), 0);
        dueCounts(2, 72, 0, 1, 0, 24, 1, 0);
        dueWay(0, 0, 23, 22, 21);
        due("unlike(0, 1)", tree.unlike(0, 1), 1);
    }

    private void writeLimits() {
        writeOften(7);
        due("write with 8 roots", tree.write(0, 0, 9), LIMIT);
        due("count(1), of which there are enough", tree.count(1), 54);
        tree.back(1);
        due("write with 7 roots", tree.write(0, 0, 9), 6);
        tree = new SummedParents();
        crowd(List.of(50, 95));
        due("count(0), of which there are not too many", tree.count(0), 5);
        due("write with 2 free blocks", tree.write(1, 0, 9), LIMIT);
        // A spoiled root goes, with its blocks.
        due("free(1) leaves enough", tree.free(1) > 0 ? 1 : 0, 1);
        due("write then", tree.write(1, 0, 9), 0);
    }

    private void mishapKinds() {
        tree.mishap(1);
        due("mishap(0)", tree.mishap(0), 1);
        tree.write(0, 3, 9);
        dueContents(21, 0, 0, 0, 9);
        due("count(4) after none", tree.count(4), 0);
        // The one that was told last is the one.
        tree.mishap(3);
        tree.mishap(2);
        tree.write(0, 3, 8);
        dueFrom(0, 0, 0, 1, 0);
        due("mishap(4)", tree.mishap(4), INVALID);
        due("mishap(-1)", tree.mishap(-1), INVALID);
        tree.write(0, 3, 7);
        dueFrom(0, 0, 0, 0, 0);
    }

    private void mishapBefore() {
        for (int before = 0; before < 4; before++) {
            for (int kind = 0; kind < 4; kind++) {
                tree.mishap(before);
                due("mishap(" + kind + ")", tree.mishap(kind), before);
                due("count(2)", tree.count(2), kind);
            }
        }
        tree.write(0, 0, 1);
        due("mishap(3) after a write", tree.mishap(3), 0);
        tree.undo();
        due("mishap(0) after undo()", tree.mishap(0), 0);
    }

    private void rotBefore() {
        due("rot(16, 0, 3, 65535)", tree.rot(16, 0, 3, 65535), 775);
        due("rot(16, 0, 3, 0)", tree.rot(16, 0, 3, 0), 65535);
        due("rot(16, 1, 3, 0)", tree.rot(16, 1, 3, 0), 775);
        due("rot(16, 1, 3, 0)", tree.rot(16, 1, 3, 0), 0);
    }

    private void rotBlocks() {
        // A free block can rot too.
        due("rot(95, 0, 0, 1)", tree.rot(95, 0, 0, 1), 0);
        due("rot(95, 1, 3, 2)", tree.rot(95, 1, 3, 2), 0);
        due("rot(0, 0, 0, 3)", tree.rot(0, 0, 0, 3), 0);
        due("rot(0, 1, 3, 4)", tree.rot(0, 1, 3, 4), 0);
        dueContent(95, 0, 1, 0, 0, 0);
        dueContent(95, 1, 0, 0, 0, 2);
        dueContent(0, 0, 3, 0, 0, 0);
        dueContent(0, 1, 0, 0, 0, 4);
        due("count(1)", tree.count(1), 75);
        due("count(4)", tree.count(4), 1);
    }

    // ---- reading.

    private void readEdges() {
        writeOften(7);
        for (int root = 0; root < 8; root++) {
            due("read(" + root + ", 0, 0)", tree.read(root, 0, 0), 7 - root);
        }
        due("read(8, 0, 0)", tree.read(8, 0, 0), INVALID);
        due("read(-1, 0, 0)", tree.read(-1, 0, 0), INVALID);
        tree.back(0);
        tree.free(7);
        tree.write(15, 3, 999);
        due("read(0, 15, 3)", tree.read(0, 15, 3), 999);
        due("read(1, 15, 3)", tree.read(1, 15, 3), 0);
        due("read(0, 15, 2)", tree.read(0, 15, 2), 0);
        due("read(0, 14, 3)", tree.read(0, 14, 3), 0);
    }

    private void readSpoiled() {
        tree.write(0, 0, 1);
        rotBoth(21, 3, 1);
        due("read(0, 0, 0), leaf", tree.read(0, 0, 0), IMPOSSIBLE);
        due("read(0, 1, 0)", tree.read(0, 1, 0), 0);
        due("read(1, 0, 0)", tree.read(1, 0, 0), 0);
        rotBoth(22, 3, 1);
        due("read(0, 1, 0), parent", tree.read(0, 1, 0), IMPOSSIBLE);
        due("read(0, 4, 0)", tree.read(0, 4, 0), 0);
        rotBoth(23, 3, 1);
        due("read(0, 4, 0), root", tree.read(0, 4, 0), IMPOSSIBLE);
        due("read(1, 4, 0)", tree.read(1, 4, 0), 0);
    }

    private void fromSpoiled() {
        rotBoth(5, 0, 1);
        dueFrom(0, 5, 0, 0, 2);
        dueFrom(0, 4, 0, 0, 0);
        rotBoth(17, 0, 1);
        dueFrom(0, 5, 0, 2, NONE);
        dueFrom(0, 7, 0, 2, NONE);
        dueFrom(0, 8, 0, 0, 0);
        rotBoth(20, 0, 1);
        dueFrom(0, 8, 2, NONE, NONE);
        due("from(0, 8, 3)", tree.from(0, 8, 3), INVALID);
        due("from(0, 8, -1)", tree.from(0, 8, -1), INVALID);
    }

    private void waySpoiled() {
        rotBoth(5, 0, 1);
        dueWay(0, 5, 20, 17, 5);
        due("way(0, 5, 2, 1)", tree.way(0, 5, 2, 1), 7);
        rotBoth(17, 0, 1);
        dueWay(0, 5, 20, 17, NONE);
        due("way(0, 5, 2, 1)", tree.way(0, 5, 2, 1), NONE);
        due("way(0, 5, 1, 1)", tree.way(0, 5, 1, 1), 76);
        rotBoth(20, 0, 1);
        dueWay(0, 5, 20, NONE, NONE);
        due("way(0, 5, 1, 1)", tree.way(0, 5, 1, 1), NONE);
        due("way(0, 5, 0, 1)", tree.way(0, 5, 0, 1), 111);
    }

    private void wayBeyond() {
        forgeBoth(16, 3, 65535, 0);
        due("way(0, 3, 2, 0)", tree.way(0, 3, 2, 0), 255);
        due("way(0, 3, 2, 1)", tree.way(0, 3, 2, 1), 255);
        due("from(0, 3, 2)", tree.from(0, 3, 2), 2);
        forgeBoth(20, 0, 65535, 3);
        due("way(0, 3, 1, 0)", tree.way(0, 3, 1, 0), 255);
        due("way(0, 3, 1, 1)", tree.way(0, 3, 1, 1), 255);
        due("way(0, 3, 2, 0)", tree.way(0, 3, 2, 0), NONE);
        forgeBoth(20, 0, 0, 3);
        due("way(0, 3, 1, 0)", tree.way(0, 3, 1, 0), 0);
        due("way(0, 3, 1, 1)", tree.way(0, 3, 1, 1), 0);
    }

    private void contentPlaces() {
        rotAll(95, 1, 1, 2, 3, 4);
        dueContent(95, 1, 1, 2, 3, 4);
        // 4 + 6 + 6 + 4 + 7
        due("content(95, 1, 4)", tree.content(95, 1, 4), 27);
        due("content(95, 1, 5)", tree.content(95, 1, 5), INVALID);
        due("content(95, 1, -1)", tree.content(95, 1, -1), INVALID);
        due("content(95, 0, 4)", tree.content(95, 0, 4), 7);
        due("content(0, 0, 4)", tree.content(0, 0, 4), 7);
        due("content(20, 1, 4)", tree.content(20, 1, 4), 111);
    }

    // ---- mending.

    private void mendCounts() {
        int[] blocks = {20, 16, 0};
        for (int bits = 0; bits < 8; bits++) {
            tree = new SummedParents();
            for (int level = 0; level < 3; level++) {
                if ((bits >> level & 1) == 1) {
                    tree.rot(blocks[level], bits % 2, 3, 9);
                }
            }
            due("mend(0, 0)", tree.mend(0, 0), Integer.bitCount(bits));
            due("mend(0, 0), again", tree.mend(0, 0), 0);
            due("count(4)", tree.count(4), 0);
        }
        // Blocks that are not on the way are left.
        tree.rot(1, 0, 0, 9);
        tree.rot(17, 0, 0, 9);
        due("mend(0, 0)", tree.mend(0, 0), 0);
        due("count(4)", tree.count(4), 2);
        due("mend(0, 15)", tree.mend(0, 15), 0);
        due("mend(0, 1)", tree.mend(0, 1), 1);
    }

    private void mendAsFar() {
        int[] blocks = {20, 16, 0};
        for (int spoiled = 0; spoiled < 3; spoiled++) {
            tree = new SummedParents();
            for (int level = 0; level < 3; level++) {
                tree.rot(blocks[level], 0, 3, 9);
            }
            tree.rot(blocks[spoiled], 1, 3, 10);
            due("mend(0, 0)", tree.mend(0, 0), spoiled);
            due("count(4)", tree.count(4), 3 - spoiled);
            due("a change", tree.count(6), 3);
            for (int level = spoiled; level < 3; level++) {
                due("the copy 0 of " + blocks[level], tree.content(blocks[level], 0, 3), 9);
            }
        }
    }

    private void scrubCounts() {
        due("scrub() of none", tree.scrub(), 0);
        for (int block = 0; block < 21; block++) {
            tree.rot(block, block % 2, 0, 60000);
        }
        due("count(4)", tree.count(4), 21);
        due("scrub() of all", tree.scrub(), 21);
        due("count(4)", tree.count(4), 0);
        due("scrub(), again", tree.scrub(), 0);
        // Eight roots have 42 blocks, of which each one is mended, the first and the last one too.
        tree = new SummedParents();
        writeOften(7);
        for (int block = 0; block < 42; block++) {
            tree.rot(block, block % 2, 3, 60001);
        }
        due("count(4) of eight roots", tree.count(4), 42);
        due("scrub() of eight roots", tree.scrub(), 42);
        due("count(4) of eight roots", tree.count(4), 0);
    }

    private void scrubOnce() {
        writeOften(7);
        // The leaf 15 and its parent belong to all eight roots.
        tree.rot(15, 0, 0, 9);
        tree.rot(19, 1, 0, 9);
        due("scrub()", tree.scrub(), 2);
        // The root 20 to the oldest one alone, and to sixteen ways.
        tree.rot(20, 0, 0, 9);
        due("scrub()", tree.scrub(), 1);
    }

    private void scrubAsFar() {
        tree.write(0, 0, 1);
        rotBoth(23, 0, 9);
        tree.rot(22, 0, 0, 9);
        tree.rot(21, 0, 0, 9);
        tree.rot(95, 0, 0, 9);
        tree.rot(0, 0, 0, 9);
        // Of the latest root nothing is come to; 17 to 19 and the other leaves belong to the older one too.
        tree.rot(15, 1, 3, 9);
        due("scrub()", tree.scrub(), 2);
        dueContents(0, 0, 0, 0, 0);
        dueContents(15, 0, 0, 0, 0);
        dueContent(95, 0, 9, 0, 0, 0);
        dueContent(21, 0, 9, 0, 0, 0);
        dueContent(21, 1, 1, 0, 0, 0);
        due("count(4)", tree.count(4), 2);
    }

    private void scrubOfTheList() {
        tree.write(0, 0, 1);
        due("free(1)", tree.free(1), 3);
        // The blocks 0, 16 and 20 are free by that, and nothing tells of them.
        tree.rot(20, 1, 0, 9);
        tree.rot(16, 1, 0, 9);
        rotAll(0, 0, 0, 0, 0, 244);
        due("scrub()", tree.scrub(), 0);
        due("content(20, 1, 0)", tree.content(20, 1, 0), 9);
        due("content(16, 1, 0)", tree.content(16, 1, 0), 9);
        dueContent(0, 0, 0, 0, 0, 244);
        dueContent(0, 1, 0, 0, 0, 0);
    }

    private void leavesFull() {
        for (int what = 0; what < 3; what++) {
            due("leaves(0, " + what + ")", tree.leaves(0, what), 0);
        }
        tree.rot(20, 1, 0, 9);
        due("leaves(0, 1)", tree.leaves(0, 1), 0xFFFF);
        due("leaves(0, 2)", tree.leaves(0, 2), 0);
        tree.mend(0, 0);
        tree.rot(20, 0, 0, 9);
        due("leaves(0, 1)", tree.leaves(0, 1), 0xFFFF);
        due("leaves(0, 2)", tree.leaves(0, 2), 0xFFFF);
        tree.rot(20, 1, 0, 10);
        due("leaves(0, 0)", tree.leaves(0, 0), 0xFFFF);
        due("leaves(0, 1)", tree.leaves(0, 1), 0);
        due("leaves(0, 2)", tree.leaves(0, 2), 0);
        due("leaves(0, 3)", tree.leaves(0, 3), INVALID);
        due("leaves(0, -1)", tree.leaves(0, -1), INVALID);
    }

    private void leavesEnds() {
        tree.rot(0, 0, 0, 9);
        due("leaves(0, 2)", tree.leaves(0, 2), 1);
        tree.rot(15, 0, 0, 9);
        due("leaves(0, 2)", tree.leaves(0, 2), 0x8001);
        due("leaves(0, 1)", tree.leaves(0, 1), 0x8001);
        due("leaves(0, 0)", tree.leaves(0, 0), 0);
        tree.rot(15, 1, 0, 9);
        due("leaves(0, 0)", tree.leaves(0, 0), 0x8000);
        tree.rot(0, 1, 0, 9);
        due("leaves(0, 0)", tree.leaves(0, 0), 0x8001);
    }

    private void leavesNotSpoiled() {
        // The leaf 5 is spoiled by unlike copies, the leaf 6 by alike ones, the leaf 7 has unlike ones.
        tree.rot(5, 0, 0, 1);
        tree.rot(5, 1, 0, 2);
        rotBoth(6, 0, 1);
        tree.rot(7, 1, 0, 1);
        due("leaves(0, 0)", tree.leaves(0, 0), 32 + 64);
        due("leaves(0, 1)", tree.leaves(0, 1), 128);
        due("leaves(0, 2)", tree.leaves(0, 2), 0);
        // Their parent is taken from the copy 1.
        tree.rot(17, 0, 3, 9);
        due("leaves(0, 0)", tree.leaves(0, 0), 32 + 64);
        due("leaves(0, 1)", tree.leaves(0, 1), 16 + 128);
        due("leaves(0, 2)", tree.leaves(0, 2), 16 + 128);
    }

    // ---- roots.

    private void freeLatest() {
        due("free(0) of one", tree.free(0), IMPOSSIBLE);
        writeOften(7);
        due("free(0) of eight", tree.free(0), IMPOSSIBLE);
        due("count(0)", tree.count(0), 8);
        for (int left = 7; left >= 1; left--) {
            due("free(left)", tree.free(left), 3);
            due("free(left), gone", tree.free(left), INVALID);
        }
        due("free(0) of one", tree.free(0), IMPOSSIBLE);
        due("read(0, 0, 0)", tree.read(0, 0, 0), 7);
    }

    private void freeBlocks() {
        // Of the root between two writes of other leaves nothing but its root block goes.
        tree.write(0, 0, 1);
        tree.write(4, 0, 1);
        due("rootOf(1, 4)", tree.rootOf(1, 4), 1);
        due("free(1)", tree.free(1), 1);
        due("count(1)", tree.count(1), 70);
        // Blocks in use that no root tells any more are free by that too.
        rotBoth(26, 3, 256 * 95);
        due("rootOf(0, 3)", tree.rootOf(0, 3), 21 - 5 + 2);
        // 4, 12 to 17, 19 and 20 go, and 95 comes.
        due("free(1)", tree.free(1), 9);
        due("count(1)", tree.count(1), 78);
    }

    private void backToLatest() {
        due("back(0) of one", tree.back(0), 0);
        due("back(1) of one", tree.back(1), INVALID);
        tree.write(0, 0, 1);
        rotBoth(23, 3, 256 * 96);
        int free = tree.count(1);
        due("back(0) of two", tree.back(0), 0);
        due("count(0)", tree.count(0), 2);
        due("count(1)", tree.count(1), free);
        due("count(5)", tree.count(5), 24);
        // A block that is told but free is free then too.
        rotBoth(23, 3, 256 * 24);
        due("back(0) of two", tree.back(0), 0);
        due("count(5)", tree.count(5), 24);
        due("rootOf(0, 0)", tree.rootOf(0, 0), 1);
        due("a change", tree.count(6), 3);
    }

    private void backToOldest() {
        writeOften(7);
        due("back(8)", tree.back(8), INVALID);
        due("back(-1)", tree.back(-1), INVALID);
        due("back(7)", tree.back(7), 21);
        dueCounts(1, 75, 0, 7, 0, 21, 3, 0);
        due("read(0, 0, 0)", tree.read(0, 0, 0), 0);
        due("rootOf(0, 0)", tree.rootOf(0, 0), 0);
        due("undo()", tree.undo(), 2);
        due("back(1)", tree.back(1), 3);
        due("count(0)", tree.count(0), 7);
        due("rootOf(0, 0)", tree.rootOf(0, 0), 6);
        due("rootOf(6, 0)", tree.rootOf(6, 0), 0);
        due("back(6)", tree.back(6), 18);
    }

    private void belongAlone() {
        due("rootOf(0, 4), the only one", tree.rootOf(0, 4), 21);
        tree.write(0, 0, 1);
        due("rootOf(1, 4)", tree.rootOf(1, 4), 3);
        // The latest root tells 0, 16 and 20 too, and the older one 1 to 3 no more.
        rotBoth(22, 1, 256 * 0);
        rotBoth(22, 2, 256 * 16);
        rotBoth(22, 3, 256 * 20);
        due("rootOf(1, 4), by the other", tree.rootOf(1, 4), 3);
        for (int place = 1; place < 4; place++) {
            rotBoth(16, place, 0);
        }
        due("rootOf(1, 4), none", tree.rootOf(1, 4), 0);
        due("rootOf(1, 3)", tree.rootOf(1, 3), 18);
        due("rootOf(0, 4)", tree.rootOf(0, 4), 3);
        due("rootOf(0, 3)", tree.rootOf(0, 3), 21);
        // What belongs to the first and the last root, but not to the one between them, is not alone.
        tree = new SummedParents();
        tree.write(0, 0, 1);
        tree.write(0, 0, 2);
        rotBoth(23, 3, 256 * 96);
        due("rootOf(0, 4), of three", tree.rootOf(0, 4), 3);
        due("rootOf(1, 3), of three", tree.rootOf(1, 3), 16);
        due("rootOf(2, 4), of three", tree.rootOf(2, 4), 3);
    }

    private void rootOfEight() {
        writeOften(7);
        for (int root = 0; root < 8; root++) {
            due("rootOf(" + root + ", 0)", tree.rootOf(root, 0), 7 - root);
            due("rootOf(" + root + ", 1)", tree.rootOf(root, 1), 20 + 3 * (7 - root));
            due("rootOf(" + root + ", 2)", tree.rootOf(root, 2), tree.content(20 + 3 * (7 - root), 0, 4));
            due("rootOf(" + root + ", 3)", tree.rootOf(root, 3), 21);
            due("rootOf(" + root + ", 4)", tree.rootOf(root, 4), 3);
        }
        due("rootOf(8, 0)", tree.rootOf(8, 0), INVALID);
        due("rootOf(7, 5)", tree.rootOf(7, 5), INVALID);
        due("rootOf(7, -1)", tree.rootOf(7, -1), INVALID);
    }

    private void unlikeSets() {
        due("unlike(0, 0)", tree.unlike(0, 0), 0);
        int set = 0;
        for (int leaf = 0; leaf < 16; leaf++) {
            tree.write(leaf, 0, 0);
            if (tree.count(0) == 3) {
                tree.free(1);
            }
            set |= 1 << leaf;
            due("unlike(0, 1)", tree.unlike(0, 1), set);
            due("unlike(1, 0)", tree.unlike(1, 0), set);
        }
        due("unlike(1, 0), all", tree.unlike(1, 0), 65535);
        due("unlike(1, 1)", tree.unlike(1, 1), 0);
        tree.write(15, 0, 1);
        due("unlike(0, 1), the last", tree.unlike(0, 1), 0x8000);
    }

    private void unlikeSame() {
        tree.write(0, 0, 1);
        // The same root, parents and leaves may be spoiled.
        rotBoth(17, 0, 9);
        rotBoth(21, 0, 9);
        rotBoth(1, 0, 9);
        due("unlike(0, 1)", tree.unlike(0, 1), 1);
        rotBoth(23, 0, 9);
        due("unlike(0, 0), spoiled", tree.unlike(0, 0), 0);
        // The same block told with another sum is the same.
        tree = new SummedParents();
        tree.write(0, 0, 1);
        int told = tree.content(23, 0, 3);
        forgeBoth(23, 3, told + 1, 2);
        due("way(0, 15, 1, 0)", tree.way(0, 15, 1, 0), 19);
        due("unlike(0, 1), another sum", tree.unlike(0, 1), 1);
        tree = new SummedParents();
        tree.write(0, 0, 1);
        forgeBoth(22, 3, 256 * 3 + 8, 2);
        dueWay(0, 2, 23, 22, 2);
        due("unlike(0, 1), another sum of a leaf", tree.unlike(0, 1), 1);
        // So is one of 96 or more.
        tree = new SummedParents();
        tree.write(0, 0, 1);
        forgeBoth(23, 3, 256 * 96 + 1, 2);
        forgeBoth(20, 3, 256 * 96 + 3, 2);
        due("way(1, 8, 1, 0)", tree.way(1, 8, 1, 0), 18);
        due("way(0, 8, 1, 0)", tree.way(0, 8, 1, 0), 18);
        due("unlike(0, 1), blocks 96", tree.unlike(0, 1), 1);
    }

    private void unlikeSpoiled() {
        int[] blocks = {23, 20, 22, 16};
        for (int block : blocks) {
            tree = new SummedParents();
            tree.write(0, 0, 1);
            tree.rot(block, 0, 0, 9);
            due("unlike(0, 1), copy 1", tree.unlike(0, 1), 1);
            tree.rot(block, 1, 0, 9);
            due("unlike(0, 1)", tree.unlike(0, 1), IMPOSSIBLE);
            due("unlike(1, 0)", tree.unlike(1, 0), IMPOSSIBLE);
            due("unlike(0, 2)", tree.unlike(0, 2), INVALID);
        }
        // A parent of 96 or more in one of them has to be looked at; a leaf of 96 or more hasn't.
        tree = new SummedParents();
        tree.write(0, 0, 1);
        forgeBoth(22, 3, 256 * 96 + 7, 0);
        due("unlike(0, 1), leaf 96", tree.unlike(0, 1), 1 + 8);
        forgeBoth(23, 3, 256 * 96 + 7, 2);
        due("unlike(0, 1), parent 96", tree.unlike(0, 1), IMPOSSIBLE);
        // A spoiled root tells nothing, also not of the block 0 with the sum 0.
        for (int block : new int[] {23, 20}) {
            tree = new SummedParents();
            tree.write(1, 0, 1);
            rotBoth(0, 3, 244);
            due("unlike(0, 1)", tree.unlike(0, 1), 2);
            rotBoth(block, 0, 9);
            due("unlike(0, 1), root " + block, tree.unlike(0, 1), IMPOSSIBLE);
            due("unlike(1, 0), root " + block, tree.unlike(1, 0), IMPOSSIBLE);
        }
    }

    private void countRoots() {
        for (int roots = 1; roots <= 8; roots++) {
            due("count(0)", tree.count(0), roots);
            tree.write(0, 0, 1);
        }
        due("count(0)", tree.count(0), 8);
        due("count(-1)", tree.count(-1), INVALID);
        due("count(8)", tree.count(8), INVALID);
    }

    private void countFree() {
        due("count(1)", tree.count(1), 75);
        due("count(5)", tree.count(5), 21);
        crowd(List.of());
        due("count(1), none", tree.count(1), 0);
        due("count(5), none", tree.count(5), NONE);
        tree = new SummedParents();
        crowd(List.of(95));
        due("count(1), the last one", tree.count(1), 1);
        due("count(5), the last one", tree.count(5), 95);
        tree = new SummedParents();
        tree.write(0, 0, 1);
        tree.free(1);
        due("count(1)", tree.count(1), 75);
        due("count(5), the first one", tree.count(5), 0);
    }

    private void countWrites() {
        due("count(2)", tree.count(2), 0);
        due("count(3)", tree.count(3), 0);
        tree.mishap(3);
        due("count(2)", tree.count(2), 3);
        tree.write(0, 4, 1);
        due("count(2)", tree.count(2), 3);
        due("count(3)", tree.count(3), 0);
        tree.write(0, 3, 1);
        due("count(2)", tree.count(2), 0);
        due("count(3)", tree.count(3), 1);
        tree.undo();
        due("count(3) after undo()", tree.count(3), 0);
        tree.write(0, 3, 1);
        tree.back(1);
        due("count(3) after back(1)", tree.count(3), 1);
        type("1.0=1;1.0=2;");
        tree.play();
        due("count(3) after play()", tree.count(3), 3);
        tree.free(2);
        due("count(3) after free(2)", tree.count(3), 3);
    }

    private void countUnlike() {
        for (int block = 0; block < 96; block += 5) {
            tree.rot(block, 0, 0, 60000);
        }
        // 0, 5, 10, 15 and 20 are in use.
        due("count(4)", tree.count(4), 5);
        tree.rot(20, 1, 0, 60000);
        due("count(4), alike though spoiled", tree.count(4), 4);
        for (int place = 0; place < 4; place++) {
            tree = new SummedParents();
            tree.rot(3, 1, place, 1);
            due("count(4), place " + place, tree.count(4), 1);
        }
        crowd(List.of());
        for (int block = 0; block < 96; block++) {
            tree.rot(block, 1, 2, 60001);
        }
        due("count(4), all blocks", tree.count(4), 96);
    }

    private void countStates() {
        for (int call = 0; call < 5; call++) {
            due("count(6)", tree.count(6), Math.min(call, 3));
            tree.mishap(0);
        }
        for (int length = 0; length < 62; length++) {
            due("count(7)", tree.count(7), Math.min(length, 60));
            tree.type(' ');
        }
        tree.clearText();
        due("count(7)", tree.count(7), 0);
        due("count(6)", tree.count(6), 3);
    }

    private void undoEmpty() {
        due("undo()", tree.undo(), IMPOSSIBLE);
        tree.write(0, 0, 1000);
        tree.type('x');
        due("undo() after no change", tree.undo(), IMPOSSIBLE);
        tree.write(0, 0, 999);
        due("undo()", tree.undo(), 0);
        due("undo() again", tree.undo(), IMPOSSIBLE);
        due("read(0, 0, 0)", tree.read(0, 0, 0), 0);
        due("count(7)", tree.count(7), 1);
    }

    private void undoRemoves() {
        tree.mishap(1);
        tree.mishap(2);
        tree.mishap(3);
        due("undo()", tree.undo(), 2);
        due("count(2)", tree.count(2), 2);
        // It is no change itself: the next one goes on further back.
        due("undo()", tree.undo(), 1);
        due("count(2)", tree.count(2), 1);
        tree.rot(0, 0, 0, 9);
        due("undo()", tree.undo(), 1);
        due("content(0, 0, 0)", tree.content(0, 0, 0), 0);
        due("undo()", tree.undo(), 0);
        due("count(2)", tree.count(2), 0);
        due("undo()", tree.undo(), IMPOSSIBLE);
    }

    // ---- texts.

    private void typeCharacters() {
        due("type(31)", tree.type(31), INVALID);
        due("type(32)", tree.type(32), 1);
        due("type(126)", tree.type(126), 2);
        due("type(127)", tree.type(127), INVALID);
        // No other number stands for a character by its last bits.
        due("type(65536 + 48)", tree.type(65536 + 48), INVALID);
        due("type(256 + 48)", tree.type(256 + 48), INVALID);
        due("type(48 - 65536)", tree.type(48 - 65536), INVALID);
        due("count(7)", tree.count(7), 2);
        tree.clearText();
        for (int character = 32; character <= 126; character++) {
            boolean digit = character >= '0' && character <= '9';
            dueFault("" + (char) character, 0, 1, digit ? 1 : 0);
        }
    }

    private void typeLimit() {
        type("0.0=0;".repeat(9) + "0.0=0");
        due("count(7)", tree.count(7), 59);
        due("type(59), the 60th", tree.type(';'), 60);
        due("type(59), the 61st", tree.type(';'), LIMIT);
        due("fault(0)", tree.fault(0), 42);
        due("fault(2)", tree.fault(2), LIMIT);
    }

    private void clearTextLength() {
        due("clearText() of none", tree.clearText(), 0);
        tree.type('1');
        due("clearText() of one", tree.clearText(), 1);
        due("clearText() again", tree.clearText(), 0);
        type("x".repeat(60));
        due("clearText() of sixty", tree.clearText(), 60);
        due("type after it", tree.type('1'), 1);
        type(".0=1;");
        due("fault(0)", tree.fault(0), NONE);
        due("count(6)", tree.count(6), 0);
    }

    private void noFault() {
        dueNoFault("");
        due("fault(3), empty", tree.fault(3), INVALID);
        due("fault(-1), empty", tree.fault(-1), INVALID);
        dueNoFault("0.0=0;");
        dueNoFault("0.0=0;".repeat(7));
        due("fault(3)", tree.fault(3), INVALID);
        due("count(3)", tree.count(3), 0);
        due("count(0)", tree.count(0), 1);
    }

    private void noCause() {
        dueFault("16.0=0;", 0, 2, NONE);
        dueFault("0.4=0;", 0, 2, NONE);
        dueFault("x", 0, 1, 0);
        writeOften(7);
        dueFault("0.0=0;", 0, 3, LIMIT);
        dueFault("0.4=0;", 0, 2, NONE);
    }

    private void playStays() {
        type("0.0=1;15.3=999;");
        due("play()", tree.play(), 2);
        due("count(7)", tree.count(7), 15);
        due("read(0, 0, 0)", tree.read(0, 0, 0), 1);
        due("read(0, 15, 3)", tree.read(0, 15, 3), 999);
        due("read(1, 15, 3)", tree.read(1, 15, 3), 0);
        due("play() again", tree.play(), 2);
        due("count(3)", tree.count(3), 4);
        due("count(0)", tree.count(0), 5);
    }

    private void playOneChange() {
        tree.mishap(1);
        due("play() of none", tree.play(), 0);
        due("count(6)", tree.count(6), 2);
        due("count(2)", tree.count(2), 1);
        due("count(0)", tree.count(0), 1);
        type("0.0=1;".repeat(7));
        due("play() of seven", tree.play(), 7);
        due("count(6)", tree.count(6), 3);
        due("undo()", tree.undo(), 2);
        dueCounts(1, 75, 1, 0, 0, 21, 2, 42);
        due("undo() of none", tree.undo(), 1);
        due("undo()", tree.undo(), 0);
        due("count(2)", tree.count(2), 0);
    }

    private void playFault() {
        type("0.0=1;".repeat(8));
        due("play(), the eighth", tree.play(), IMPOSSIBLE);
        dueCounts(1, 75, 0, 0, 0, 21, 0, 48);
        tree.clearText();
        type("0.0=1;0.0=2");
        due("play(), the form", tree.play(), IMPOSSIBLE);
        tree.clearText();
        type("0.0=1;16.0=2;");
        due("play(), the leaf", tree.play(), IMPOSSIBLE);
        dueCounts(1, 75, 0, 0, 0, 21, 0, 13);
        rotBoth(15, 0, 9);
        tree.clearText();
        type("0.0=1;15.0=2;");
        due("play(), spoiled", tree.play(), IMPOSSIBLE);
        dueCounts(1, 75, 0, 0, 0, 21, 2, 13);
        dueContents(21, 0, 0, 0, 0);
        due("read(0, 0, 0)", tree.read(0, 0, 0), 0);
    }
}
