import java.util.List;
import java.util.function.Consumer;

/** The sentences of the document's "Terms" that name a boundary case: each one has a test here. */
public final class EdgeTermsTests extends Fixture {
    private static final Check CHECK = new Check("edges of the terms");

    private EdgeTermsTests(String sentence) {
        super(CHECK, sentence);
    }

    private static void test(String sentence, Consumer<EdgeTermsTests> body) {
        body.accept(new EdgeTermsTests(sentence));
    }

    public static void main(String[] args) {
        test("used for at most 512 calls: writes", EdgeTermsTests::manyWrites);
        test("used for at most 512 calls: changes", EdgeTermsTests::manyChanges);
        test("used for at most 512 calls: characters", EdgeTermsTests::manyCharacters);
        blocks();
        roots();
        writes();
        reading();
        mending();
        rootsThatGo();
        texts();
        changes();
        CHECK.end();
    }

    private static void blocks() {
        test("96 blocks, numbered from 0, in each of two copies", EdgeTermsTests::blockNumbers);
        test("four numbers (0 to 65535)", EdgeTermsTests::numbers);
        test("16 leaves, numbered from 0", EdgeTermsTests::sixteenLeaves);
        test("the parent p with the leaves 4 * p to 4 * p + 3", EdgeTermsTests::leavesOfParents);
        test("divided by 256, rounded down, and the sum is the rest", EdgeTermsTests::childOfNumber);
        test("modulo 251", EdgeTermsTests::sums);
    }

    private static void roots() {
        test("the latest one first", EdgeTermsTests::latestFirst);
        test("numbers, also of those that are gone", EdgeTermsTests::rootNumbers);
        test("at first there is the root 0 with 21 blocks", EdgeTermsTests::firstRoot);
    }

    private static void writes() {
        test("a value of a leaf (0 to 999)", EdgeTermsTests::values);
        test("with the other values as they are read", EdgeTermsTests::otherValues);
        test("the lowest free one at that time", EdgeTermsTests::lowestFree);
        test("the lowest free one, up to the last block", EdgeTermsTests::lastBlock);
        test("in both copies", EdgeTermsTests::bothCopies);
        test("fewer than three free blocks", EdgeTermsTests::fewFreeBlocks);
        test("if that is spoiled, the write is NOT_POSSIBLE", EdgeTermsTests::spoiledWrites);
        test("reads the leaf, the parent and the root as a reading does", EdgeTermsTests::readsFirst);
        test("torn: only its first two numbers", EdgeTermsTests::tornNumbers);
        test("torn: as they were in this block before", EdgeTermsTests::tornBefore);
        test("torn: numbers that were never laid are 0", EdgeTermsTests::tornNeverLaid);
        test("lost: its content there stays as it was", EdgeTermsTests::lostStays);
        test("swapped: changed about in the copy 0", EdgeTermsTests::swappedCopies);
        test("parents have the sums of what should be there", EdgeTermsTests::sumsOfMishaps);
        test("a mishap happens once", EdgeTermsTests::mishapOnce);
    }

    private static void reading() {
        test("from the copy 0 if its sum is right, otherwise from the copy 1", EdgeTermsTests::copies);
        test("otherwise it is spoiled, and nothing is read", EdgeTermsTests::nothingRead);
        test("a block of 96 or more is spoiled always", EdgeTermsTests::blocksBeyond);
        test("a sum that is told of 250 or more", EdgeTermsTests::sumsBeyond);
        test("a sum can be right by chance", EdgeTermsTests::byChance);
    }

    private static void mending() {
        test("both copies have the content that is taken, if it is not spoiled", EdgeTermsTests::mended);
        test("the root first, with the content that was taken then", EdgeTermsTests::rootFirst);
    }

    private static void rootsThatGo() {
        test("a root that is not the latest one can be freed", EdgeTermsTests::freedRoots);
        test("those blocks alone are in use that belong to roots of the list", EdgeTermsTests::inUse);
        test("the first copy whose sum is right, or the copy 0", EdgeTermsTests::copyOfBelonging);
        test("blocks of 96 or more are left out", EdgeTermsTests::leftOut);
        test("at most 8 roots are in the list", EdgeTermsTests::eightRoots);
    }

    private static void texts() {
        test("at most 60 characters, initially empty", EdgeTermsTests::textLength);
        test("leaves of 1 or 2 digits", EdgeTermsTests::leafDigits);
        test("a place (0 to 3)", EdgeTermsTests::places);
        test("values of 1 to 3 digits", EdgeTermsTests::valueDigits);
        test("0 ahead allowed", EdgeTermsTests::zeroAhead);
        test("the first character of the first write that is not possible", EdgeTermsTests::positions);
        test("its reason is the first of these", EdgeTermsTests::reasons);
        test("at which character of the write it breaks off", EdgeTermsTests::breaks);
        test("of one that the text ends too early it is its length", EdgeTermsTests::endsTooEarly);
        test("there is no such leaf or place", EdgeTermsTests::noSuchLeafOrPlace);
        test("with the reason 3 the error code of the write", EdgeTermsTests::errorCodes);
        test("when those ahead of it are done", EdgeTermsTests::thoseAhead);
        test("a full text that makes the list of roots full", EdgeTermsTests::fullText);
    }

    private static void changes() {
        test("the changes are the calls of ..", EdgeTermsTests::whatIsAChange);
        test("a change is one also if it changes nothing", EdgeTermsTests::emptyChanges);
        test("if there are 4 states then, the oldest one is dropped", EdgeTermsTests::fourStates);
        test("records everything before it but the text", EdgeTermsTests::allButText);
        test("INVALID_ARGUMENT rather than NOT_POSSIBLE", EdgeTermsTests::invalidFirst);
        test("LIMIT_REACHED ahead of what it reads", EdgeTermsTests::limitAhead);
        test("roots are told by their index, 0 for the latest one", EdgeTermsTests::indexOfRoots);
    }

    // ---- an object's calls.

    private void manyWrites() {
        for (int number = 1; number <= 255; number++) {
            tree.write(number % 16, number % 4, number);
            tree.free(1);
        }
        due("rootOf(0, 0), the call 511", tree.rootOf(0, 0), 255);
        due("read(0, 15, 3), the call 512", tree.read(0, 15, 3), 255);
    }

    private void manyChanges() {
        for (int call = 1; call < 511; call++) {
            tree.rot(95, 1, 3, call);
        }
        due("undo(), the call 511", tree.undo(), 2);
        due("content(95, 1, 3), the call 512", tree.content(95, 1, 3), 509);
    }

    private void manyCharacters() {
        for (int call = 1; call < 512; call++) {
            due("type(59)", tree.type(59), call <= 60 ? call : LIMIT);
        }
        due("clearText(), the call 512", tree.clearText(), 60);
    }

    // ---- blocks.

    private void blockNumbers() {
        int number = 1000;
        for (int block : new int[] {0, 1, 94, 95}) {
            for (int copy = 0; copy < 2; copy++) {
                rotAll(block, copy, number, number + 1, number + 2, number + 3);
                number += 4;
            }
        }
        number = 1000;
        for (int block : new int[] {0, 1, 94, 95}) {
            for (int copy = 0; copy < 2; copy++) {
                dueContent(block, copy, number, number + 1, number + 2, number + 3);
                number += 4;
            }
        }
        dueContents(2, 0, 0, 0, 0);
        dueContents(93, 0, 0, 0, 0);
        due("rot(96, 0, 0, 1)", tree.rot(96, 0, 0, 1), INVALID);
        due("rot(-1, 0, 0, 1)", tree.rot(-1, 0, 0, 1), INVALID);
        due("content(96, 1, 0)", tree.content(96, 1, 0), INVALID);
        due("content(-1, 1, 0)", tree.content(-1, 1, 0), INVALID);
        due("rot(95, 2, 0, 1)", tree.rot(95, 2, 0, 1), INVALID);
        due("rot(95, -1, 0, 1)", tree.rot(95, -1, 0, 1), INVALID);
        due("content(0, 2, 0)", tree.content(0, 2, 0), INVALID);
        due("content(0, -1, 0)", tree.content(0, -1, 0), INVALID);
    }

    private void numbers() {
        for (int place = 0; place < 4; place++) {
            due("rot(50, 1, place, 65535)", tree.rot(50, 1, place, 65535), 0);
            due("rot(50, 1, place, 65536)", tree.rot(50, 1, place, 65536), INVALID);
            due("content(50, 1, place)", tree.content(50, 1, place), 65535);
            due("rot(50, 1, place, 0)", tree.rot(50, 1, place, 0), 65535);
            due("rot(50, 1, place, -1)", tree.rot(50, 1, place, -1), INVALID);
            due("content(50, 1, place)", tree.content(50, 1, place), 0);
        }
        due("rot(50, 1, 4, 0)", tree.rot(50, 1, 4, 0), INVALID);
        due("rot(50, 1, -1, 0)", tree.rot(50, 1, -1, 0), INVALID);
    }

    private void sixteenLeaves() {
        due("write(0, 0, 10)", tree.write(0, 0, 10), 0);
        due("write(15, 3, 20)", tree.write(15, 3, 20), 0);
        for (int leaf = 0; leaf < 16; leaf++) {
            for (int place = 0; place < 4; place++) {
                int want = leaf == 0 && place == 0 ? 10 : leaf == 15 && place == 3 ? 20 : 0;
                due("read(0, " + leaf + ", " + place + ")", tree.read(0, leaf, place), want);
            }
        }
        due("read(0, 16, 0)", tree.read(0, 16, 0), INVALID);
        due("read(0, -1, 0)", tree.read(0, -1, 0), INVALID);
        due("read(0, 0, 4)", tree.read(0, 0, 4), INVALID);
        due("read(0, 0, -1)", tree.read(0, 0, -1), INVALID);
        due("write(16, 0, 1)", tree.write(16, 0, 1), INVALID);
        due("write(-1, 0, 1)", tree.write(-1, 0, 1), INVALID);
    }

    private void leavesOfParents() {
        for (int parent = 0; parent < 4; parent++) {
            for (int child : new int[] {0, 3}) {
                tree = new SummedParents();
                int leaf = 4 * parent + child;
                tree.write(leaf, 0, 1);
                for (int each = 0; each < 16; each++) {
                    boolean sibling = each >= 4 * parent && each <= 4 * parent + 3;
                    dueWay(0, each, 23, sibling ? 22 : 16 + each / 4, each == leaf ? 21 : each);
                }
                due("unlike(0, 1)", tree.unlike(0, 1), 1 << leaf);
            }
            tree = new SummedParents();
            rotBoth(16 + parent, 0, 0);
            due("leaves(0, 0)", tree.leaves(0, 0), 15 << 4 * parent);
        }
    }

    private void childOfNumber() {
        int[] numbers = {0, 255, 256, 511, 512, 24575, 24576, 65279, 65280, 65535};
        int[] blocks = {0, 0, 1, 1, 2, 95, 96, 254, 255, 255};
        int[] sums = {0, 255, 0, 255, 0, 255, 0, 255, 0, 255};
        for (int index = 0; index < numbers.length; index++) {
            tree = new SummedParents();
            forgeBoth(16, 0, numbers[index], 3);
            due("way(0, 0, 2, 0)", tree.way(0, 0, 2, 0), blocks[index]);
            due("way(0, 0, 2, 1)", tree.way(0, 0, 2, 1), sums[index]);
            forgeBoth(20, 3, numbers[index], 2);
            due("way(0, 12, 1, 0)", tree.way(0, 12, 1, 0), blocks[index]);
            due("way(0, 12, 1, 1)", tree.way(0, 12, 1, 1), sums[index]);
        }
    }

    private void dueSum(int want, int... numbers) {
        rotAll(60, 0, numbers);
        due("sum of " + numbers[0] + ", " + numbers[1] + ", " + numbers[2] + ", " + numbers[3],
                tree.content(60, 0, 4), want);
    }

    private void sums() {
        dueSum(7, 0, 0, 0, 0);
        dueSum(11, 1, 0, 0, 0);
        dueSum(10, 0, 1, 0, 0);
        dueSum(9, 0, 0, 1, 0);
        dueSum(8, 0, 0, 0, 1);
        // 243 + 7 = 250, and one more goes around.
        dueSum(250, 0, 0, 0, 243);
        dueSum(0, 0, 0, 0, 244);
        dueSum(1, 0, 0, 0, 245);
        dueSum(250, 60, 0, 0, 3);
        dueSum(0, 61, 0, 0, 0);
        // 494 + 7 = 501 = 251 + 250
        dueSum(250, 0, 0, 0, 494);
        dueSum(0, 0, 0, 0, 495);
        // 10 * 65535 + 7 = 655357 = 2610 * 251 + 247
        dueSum(247, 65535, 65535, 65535, 65535);
        due("sum of the other copy", tree.content(60, 1, 4), 7);
    }

    // ---- roots.

    private void latestFirst() {
        writeOften(7);
        for (int index = 0; index < 8; index++) {
            due("rootOf(" + index + ", 0)", tree.rootOf(index, 0), 7 - index);
            due("rootOf(" + index + ", 1)", tree.rootOf(index, 1), 41 - 3 * index);
            due("read(" + index + ", 0, 0)", tree.read(index, 0, 0), 7 - index);
        }
    }

    private void rootNumbers() {
        tree.write(0, 0, 1);
        tree.write(0, 0, 2);
        tree.free(1);
        due("rootOf(0, 0)", tree.rootOf(0, 0), 2);
        due("rootOf(1, 0)", tree.rootOf(1, 0), 0);
        tree.write(0, 0, 3);
        due("rootOf(0, 0)", tree.rootOf(0, 0), 3);
        tree.back(2);
        due("rootOf(0, 0)", tree.rootOf(0, 0), 0);
        tree.write(0, 0, 4);
        due("rootOf(0, 0)", tree.rootOf(0, 0), 4);
        tree.undo();
        tree.write(0, 0, 5);
        due("rootOf(0, 0), after undo()", tree.rootOf(0, 0), 4);
        // By undo() all that were gone have their numbers again.
        tree = new SummedParents();
        writeOften(7);
        tree.free(4);
        tree.back(3);
        due("rootOf(0, 0), after back(3)", tree.rootOf(0, 0), 4);
        due("rootOf(1, 0), after back(3)", tree.rootOf(1, 0), 2);
        tree.undo();
        for (int index = 0; index < 7; index++) {
            int number = index < 4 ? 7 - index : 6 - index;
            due("rootOf(" + index + ", 0), after one undo()", tree.rootOf(index, 0), number);
        }
        tree.undo();
        for (int index = 0; index < 8; index++) {
            due("rootOf(" + index + ", 0), after two", tree.rootOf(index, 0), 7 - index);
        }
        tree.back(7);
        type("1.0=1;2.0=2;");
        tree.play();
        for (int index = 0; index < 3; index++) {
            due("rootOf(" + index + ", 0), after play()", tree.rootOf(index, 0), index == 2 ? 0 : 9 - index);
        }
    }

    private void firstRoot() {
        due("count(0)", tree.count(0), 1);
        int[] want = {0, 20, 111, 21, 21};
        for (int what = 0; what < 5; what++) {
            due("rootOf(0, " + what + ")", tree.rootOf(0, what), want[what]);
        }
        for (int leaf = 0; leaf < 16; leaf++) {
            dueWay(0, leaf, 20, 16 + leaf / 4, leaf);
            dueContents(leaf, 0, 0, 0, 0);
        }
        due("count(1)", tree.count(1), 96 - 21);
        due("count(5)", tree.count(5), 21);
        due("rootOf(1, 0)", tree.rootOf(1, 0), INVALID);
    }

    // ---- writes.

    private void values() {
        for (int place = 0; place < 4; place++) {
            tree = new SummedParents();
            due("write(7, place, 999)", tree.write(7, place, 999), 0);
            due("write(7, place, 1000)", tree.write(7, place, 1000), INVALID);
            due("read(0, 7, place)", tree.read(0, 7, place), 999);
            due("write(7, place, 0)", tree.write(7, place, 0), 999);
            due("write(7, place, -1)", tree.write(7, place, -1), INVALID);
            due("read(0, 7, place)", tree.read(0, 7, place), 0);
        }
    }

    private void otherValues() {
        for (int place = 0; place < 4; place++) {
            tree.write(7, place, 11 * (place + 1));
        }
        // The root, the parent and the leaf are each read from the copy 1.
        for (int level = 0; level < 3; level++) {
            tree.rot(tree.way(0, 7, level, 0), 0, 2, 5);
        }
        dueFrom(0, 7, 1, 1, 1);
        due("write(7, 3, 0)", tree.write(7, 3, 0), 44);
        int[] want = {11, 22, 33, 0};
        for (int place = 0; place < 4; place++) {
            due("read(0, 7, " + place + ")", tree.read(0, 7, place), want[place]);
        }
        dueFrom(0, 7, 0, 0, 0);
        dueWay(0, 6, 35, 34, 6);
        dueWay(0, 8, 35, 18, 8);
    }

    private void lowestFree() {
        tree.write(0, 0, 1);
        tree.write(4, 0, 1);
        dueWay(0, 4, 26, 25, 24);
        // The root 1 has the block 23 for itself: one gap, then the end of what is in use.
        due("free(1)", tree.free(1), 1);
        due("count(5)", tree.count(5), 23);
        tree.write(8, 0, 1);
        dueWay(0, 8, 28, 27, 23);
        // The root 0 has the blocks 0, 4, 16, 17 and 20 that neither other one has.
        due("free(2)", tree.free(2), 5);
        due("count(5)", tree.count(5), 0);
        tree.write(12, 0, 1);
        dueWay(0, 12, 16, 4, 0);
        due("count(5)", tree.count(5), 17);
        tree.write(12, 0, 2);
        dueWay(0, 12, 29, 20, 17);
    }

    private void lastBlock() {
        crowd(List.of(93, 94, 95));
        due("count(5)", tree.count(5), 93);
        due("write(15, 3, 999)", tree.write(15, 3, 999), 0);
        dueWay(0, 15, 95, 94, 93);
        dueContents(93, 0, 0, 0, 999);
        // 999 + 7 = 4 * 251 + 2
        dueContents(94, 3079, 3335, 3591, 256 * 93 + 2);
        due("read(0, 15, 3)", tree.read(0, 15, 3), 999);
        due("count(1)", tree.count(1), 0);
        due("count(5)", tree.count(5), NONE);
        due("rootOf(0, 1)", tree.rootOf(0, 1), 95);
        due("unlike(0, 1)", tree.unlike(0, 1), 0x8000);
    }

    private void bothCopies() {
        rotAll(21, 0, 9, 9, 9, 9);
        rotAll(21, 1, 8, 8, 8, 8);
        rotAll(22, 1, 7, 7, 7, 7);
        rotAll(23, 0, 6, 6, 6, 6);
        tree.write(0, 0, 999);
        dueContents(21, 999, 0, 0, 0);
        dueContents(22, 256 * 21 + 238, 263, 519, 775);
        dueContents(23, 256 * 22 + 216, 4428, 4633, 5089);
    }

    private void fewFreeBlocks() {
        List<Integer> free = List.of(40, 77, 95, 36);
        for (int size = 0; size <= 4; size++) {
            tree = new SummedParents();
            crowd(free.subList(0, size));
            due("write with " + size, tree.write(1, 1, 1), size < 3 ? LIMIT : 0);
            due("free blocks then", tree.count(1), size < 3 ? size : size - 3);
        }
    }

    private void spoiledWrites() {
        rotBoth(15, 3, 1);
        due("write(15, 0, 1), leaf", tree.write(15, 0, 1), IMPOSSIBLE);
        due("write(14, 0, 1)", tree.write(14, 0, 1), 0);
        rotBoth(16, 3, 1);
        due("write(0, 0, 1), parent", tree.write(0, 0, 1), IMPOSSIBLE);
        due("write(4, 0, 1)", tree.write(4, 0, 1), 0);
        rotBoth(tree.rootOf(0, 1), 3, 1);
        due("write(4, 0, 1), root", tree.write(4, 0, 1), IMPOSSIBLE);
        // By a leaf or parent of 96 or more.
        tree = new SummedParents();
        forgeBoth(16, 0, 256 * 96 + 7, 3);
        due("write(0, 0, 1), leaf 96", tree.write(0, 0, 1), IMPOSSIBLE);
        due("write(1, 0, 1)", tree.write(1, 0, 1), 0);
        forgeBoth(tree.rootOf(0, 1), 3, 256 * 96 + 7, 2);
        due("write(12, 0, 1), parent 96", tree.write(12, 0, 1), IMPOSSIBLE);
        due("write(2, 0, 1)", tree.write(2, 0, 1), 0);
    }

    private void readsFirst() {
        // The root tells as the parent the free block 21, in which the leaf is laid then.
        for (int copy = 0; copy < 2; copy++) {
            rotAll(21, copy, 7, 263, 519, 775);
        }
        forgeBoth(20, 0, 256 * 21 + tree.content(21, 0, 4), 3);
        dueWay(0, 0, 20, 21, 0);
        due("write(0, 0, 9)", tree.write(0, 0, 9), 0);
        dueContents(21, 9, 0, 0, 0);
        // 36 + 7
        dueContents(22, 256 * 21 + 43, 263, 519, 775);
        due("read(0, 0, 0)", tree.read(0, 0, 0), 9);
        due("read(0, 1, 0)", tree.read(0, 1, 0), 0);
        dueFrom(1, 0, 0, 2, NONE);
    }

    private void tornNumbers() {
        for (int place = 0; place < 4; place++) {
            tree = new SummedParents();
            for (int each = 0; each < 4; each++) {
                tree.write(3, each, each + 1);
            }
            tree.mishap(1);
            tree.write(3, place, 9);
            // The first new block is 21 + 4 * 3 = 33, the parent 34.
            int[] whole = {1, 2, 3, 4};
            whole[place] = 9;
            dueContent(33, 1, whole);
            dueContent(33, 0, whole[0], whole[1], 0, 0);
            due("the parent's copies", tree.content(34, 0, 3), tree.content(34, 1, 3));
            due("the root's copies", tree.content(35, 0, 0), tree.content(35, 1, 0));
            due("count(4)", tree.count(4), 1);
        }
    }

    private void tornBefore() {
        tree.write(0, 2, 7);
        tree.write(0, 3, 8);
        due("free(1)", tree.free(1), 3);
        tree.mishap(1);
        tree.write(5, 0, 9);
        // The block 21 was the leaf with 0, 0, 7, 0.
        dueContent(21, 0, 9, 0, 7, 0);
        dueContent(21, 1, 9, 0, 0, 0);
        due("from(0, 5, 2)", tree.from(0, 5, 2), 1);
    }

    private void tornNeverLaid() {
        tree.mishap(1);
        tree.write(0, 3, 9);
        dueContent(21, 0, 0, 0, 0, 0);
        dueContent(21, 1, 0, 0, 0, 9);
        due("from(0, 0, 2)", tree.from(0, 0, 2), 1);
        // Where the rest is 0 anyway the copies are alike.
        tree.mishap(1);
        tree.write(1, 1, 9);
        dueContents(24, 0, 9, 0, 0);
        due("from(0, 1, 2)", tree.from(0, 1, 2), 0);
        due("count(4)", tree.count(4), 1);
    }

    private void lostStays() {
        tree.mishap(2);
        tree.write(0, 0, 999);
        dueContent(22, 0, 0, 0, 0, 0);
        dueContent(22, 1, 256 * 21 + 238, 263, 519, 775);
        dueContents(21, 999, 0, 0, 0);
        dueContents(23, 256 * 22 + 216, 4428, 4633, 5089);
        // A block that had a content before.
        tree.write(0, 0, 1);
        due("free(1)", tree.free(1), 3);
        tree.rot(22, 0, 3, 65535);
        tree.mishap(2);
        tree.write(4, 0, 0);
        dueContent(22, 0, 0, 0, 0, 65535);
        dueContent(22, 1, 256 * 21 + 7, 1287, 1543, 1799);
        dueFrom(0, 4, 0, 1, 0);
    }

    private void swappedCopies() {
        tree.mishap(3);
        tree.write(0, 0, 999);
        dueContent(21, 0, 256 * 21 + 238, 263, 519, 775);
        dueContent(22, 0, 999, 0, 0, 0);
        dueContent(21, 1, 999, 0, 0, 0);
        dueContent(22, 1, 256 * 21 + 238, 263, 519, 775);
        dueContents(23, 256 * 22 + 216, 4428, 4633, 5089);
        dueFrom(0, 0, 0, 1, 1);
        // All four numbers, of a leaf that is full and in blocks that were laid before.
        tree.write(0, 1, 8);
        tree.write(0, 2, 7);
        tree.write(0, 3, 6);
        due("free(2)", tree.free(2), 3);
        due("count(5)", tree.count(5), 24);
        tree.mishap(3);
        tree.write(0, 0, 5);
        dueContent(25, 0, 5, 8, 7, 6);
        dueContent(24, 1, 5, 8, 7, 6);
        dueContent(24, 0, tree.content(25, 1, 0), 263, 519, 775);
    }

    private void sumsOfMishaps() {
        for (int kind = 0; kind < 4; kind++) {
            tree = new SummedParents();
            tree.mishap(kind);
            tree.write(10, 3, 999);
            // 999 + 7 = 4 * 251 + 2
            due("sum of the leaf", tree.way(0, 10, 2, 1), 2);
            due("sum of the leaf, copy 1", tree.content(21, 1, 4), 2);
            due("sum of the parent", tree.way(0, 10, 1, 1), tree.content(22, 1, 4));
            due("sum of the root", tree.rootOf(0, 2), tree.content(23, 1, 4));
            due("sum of the root, copy 0", tree.rootOf(0, 2), tree.content(23, 0, 4));
            dueContent(22, 1, 2055, 2311, 256 * 21 + 2, 2823);
            due("read(0, 10, 3)", tree.read(0, 10, 3), 999);
        }
    }

    private void mishapOnce() {
        for (int kind = 1; kind < 4; kind++) {
            tree = new SummedParents();
            tree.mishap(kind);
            tree.write(0, 3, 9);
            int unlike = tree.count(4);
            due("count(2)", tree.count(2), 0);
            due("unlike after a mishap", unlike, kind == 3 ? 2 : 1);
            tree.write(0, 3, 8);
            due("count(4)", tree.count(4), unlike);
        }
        // A write that is refused leaves it for the next one.
        tree.mishap(2);
        due("write, no place", tree.write(0, 4, 9), INVALID);
        due("count(2)", tree.count(2), 2);
        rotBoth(15, 0, 1);
        due("write, spoiled", tree.write(15, 0, 9), IMPOSSIBLE);
        due("count(2)", tree.count(2), 2);
        tree.write(4, 0, 9);
        due("count(2)", tree.count(2), 0);
        dueFrom(0, 4, 0, 1, 0);
        writeOften(4);
        tree.mishap(3);
        due("write with 8 roots", tree.write(0, 0, 9), LIMIT);
        due("count(2)", tree.count(2), 3);
        due("free(7)", tree.free(7) > 0 ? 1 : 0, 1);
        tree.write(0, 3, 9);
        dueFrom(0, 0, 0, 1, 1);
    }

    // ---- reading.

    private void copies() {
        int[] blocks = {20, 16, 0};
        for (int level = 0; level < 3; level++) {
            tree = new SummedParents();
            tree.rot(blocks[level], 1, 3, 9);
            dueFrom(0, 0, 0, 0, 0);
            tree = new SummedParents();
            tree.rot(blocks[level], 0, 3, 9);
            dueFrom(0, 0, level == 0 ? 1 : 0, level == 1 ? 1 : 0, level == 2 ? 1 : 0);
            // Both are right, but not the same: the copy 0 is taken.
            tree = new SummedParents();
            int number = tree.content(blocks[level], 1, 3);
            tree.rot(blocks[level], 1, 3, number + 251);
            dueFrom(0, 0, 0, 0, 0);
            due("read(0, 0, 3)", tree.read(0, 0, 3), 0);
            // And where it is not right, the other content of the copy 1.
            tree.rot(blocks[level], 0, 3, number + 1);
            dueFrom(0, 0, level == 0 ? 1 : 0, level == 1 ? 1 : 0, level == 2 ? 1 : 0);
            due("read(0, 0, 3)", tree.read(0, 0, 3), level == 2 ? 251 : 0);
        }
    }

    private void nothingRead() {
        int[] blocks = {20, 16, 0};
        for (int level = 0; level < 3; level++) {
            tree = new SummedParents();
            tree.rot(blocks[level], 0, 3, 9);
            tree.rot(blocks[level], 1, 3, 10);
            for (int each = 0; each < 3; each++) {
                int from = each < level ? 0 : each == level ? 2 : NONE;
                due("from(0, 0, " + each + ")", tree.from(0, 0, each), from);
                int block = each <= level ? blocks[each] : NONE;
                due("way(0, 0, " + each + ", 0)", tree.way(0, 0, each, 0), block);
            }
            due("read(0, 0, 0)", tree.read(0, 0, 0), IMPOSSIBLE);
            due("read(0, 15, 0)", tree.read(0, 15, 0), level == 0 ? IMPOSSIBLE : 0);
        }
    }

    private void blocksBeyond() {
        // The empty block 95 has the sum 7.
        forgeBoth(16, 0, 256 * 95 + 7, 3);
        dueFrom(0, 0, 0, 0, 0);
        due("read(0, 0, 0)", tree.read(0, 0, 0), 0);
        for (int block : new int[] {96, 97, 128, 192, 255}) {
            tree = new SummedParents();
            forgeBoth(16, 0, 256 * block + 7, 3);
            dueFrom(0, 0, 0, 0, 2);
            due("way(0, 0, 2, 0)", tree.way(0, 0, 2, 0), block);
            due("read(0, 0, 0)", tree.read(0, 0, 0), IMPOSSIBLE);
        }
        tree = new SummedParents();
        forgeBoth(20, 0, 256 * 95 + 7, 3);
        // Its content tells the block 0 with the sum 0, which is not right.
        dueFrom(0, 0, 0, 0, 2);
        for (int block : new int[] {96, 116, 255}) {
            tree = new SummedParents();
            forgeBoth(20, 0, 256 * block + 7, 3);
            dueFrom(0, 0, 0, 2, NONE);
        }
    }

    private void sumsBeyond() {
        rotAll(0, 0, 0, 0, 0, 243);
        rotAll(0, 1, 0, 0, 0, 244);
        // The sum of the copy 0 is 250, that of the copy 1 is 251, which is 0.
        forgeBoth(16, 0, 250, 3);
        dueFrom(0, 0, 0, 0, 0);
        forgeBoth(16, 0, 0, 3);
        dueFrom(0, 0, 0, 0, 1);
        for (int sum = 251; sum < 256; sum++) {
            rotAll(0, 0, 0, 0, 0, sum - 7);
            rotAll(0, 1, 0, 0, 0, sum - 7);
            forgeBoth(16, 0, sum, 3);
            dueFrom(0, 0, 0, 0, 2);
            due("way(0, 0, 2, 1)", tree.way(0, 0, 2, 1), sum);
        }
    }

    private void byChance() {
        tree.rot(0, 0, 3, 250);
        due("from(0, 0, 2)", tree.from(0, 0, 2), 1);
        tree.rot(0, 0, 3, 252);
        due("from(0, 0, 2)", tree.from(0, 0, 2), 1);
        tree.rot(0, 0, 3, 251);
        due("from(0, 0, 2)", tree.from(0, 0, 2), 0);
        due("read(0, 0, 3)", tree.read(0, 0, 3), 251);
        // 261 * 251 = 65511 is the last one.
        tree.rot(0, 0, 3, 65511);
        due("read(0, 0, 3)", tree.read(0, 0, 3), 65511);
        due("write(0, 3, 999)", tree.write(0, 3, 999), 65511);
    }

    // ---- rot and mending.

    private void mended() {
        int[] blocks = {20, 16, 0};
        for (int level = 0; level < 3; level++) {
            for (int copy = 0; copy < 2; copy++) {
                tree = new SummedParents();
                int before = tree.content(blocks[level], copy, 3);
                tree.rot(blocks[level], copy, 3, 9);
                due("mend(0, 0)", tree.mend(0, 0), 1);
                due("the copy " + copy, tree.content(blocks[level], copy, 3), before);
                due("the other one", tree.content(blocks[level], 1 - copy, 3), before);
            }
            tree = new SummedParents();
            tree.rot(blocks[level], 0, 3, 9);
            tree.rot(blocks[level], 1, 3, 10);
            due("mend(0, 0), spoiled", tree.mend(0, 0), 0);
            due("the copy 0", tree.content(blocks[level], 0, 3), 9);
            due("the copy 1", tree.content(blocks[level], 1, 3), 10);
        }
        // A leaf of 96 or more has no copies to mend.
        tree = new SummedParents();
        forgeBoth(16, 0, 256 * 96 + 7, 3);
        due("mend(0, 0), leaf 96", tree.mend(0, 0), 0);
    }

    private void rootFirst() {
        // The root 20 tells itself as the parent 0, by the sum of its copy 1.
        tree.rot(20, 1, 0, 7);
        int[] other = {7, 4428, 4633, 5089};
        int sum = tree.content(20, 1, 4);
        forge(20, 0, 0, 256 * 20 + sum, 3);
        dueWay(0, 0, 20, 20, 0);
        dueFrom(0, 0, 0, 1, 0);
        tree.rot(0, 0, 1, 5);
        dueFrom(0, 0, 0, 1, 1);
        // As the root it has what its copy 0 was, and then, as the parent, what its copy 1 was.
        due("mend(0, 0)", tree.mend(0, 0), 2);
        dueContents(20, other);
        dueContents(0, 0, 0, 0, 0);
        due("from(0, 0, 0)", tree.from(0, 0, 0), 2);
    }

    // ---- roots that go.

    private void freedRoots() {
        due("free(0) of one", tree.free(0), IMPOSSIBLE);
        due("free(1) of one", tree.free(1), INVALID);
        tree.write(0, 0, 1);
        due("free(0) of two", tree.free(0), IMPOSSIBLE);
        due("free(2) of two", tree.free(2), INVALID);
        due("free(1) of two", tree.free(1), 3);
        due("rootOf(0, 0)", tree.rootOf(0, 0), 1);
        due("rootOf(1, 0)", tree.rootOf(1, 0), INVALID);
        due("count(0)", tree.count(0), 1);
        tree = new SummedParents();
        writeOften(7);
        due("free(8) of eight", tree.free(8), INVALID);
        due("free(7) of eight", tree.free(7), 3);
        due("free(1) of seven", tree.free(1), 3);
        int[] numbers = {7, 5, 4, 3, 2, 1};
        for (int index = 0; index < 6; index++) {
            due("rootOf(" + index + ", 0)", tree.rootOf(index, 0), numbers[index]);
        }
        due("rootOf(6, 0)", tree.rootOf(6, 0), INVALID);
    }

    private void inUse() {
        tree.write(0, 0, 1);
        tree.write(1, 0, 1);
        // The leaf 21 is also of the root 2: of the root 1 the blocks 22 and 23 are free by that.
        due("free(1)", tree.free(1), 2);
        due("count(1)", tree.count(1), 96 - 24 - 3 + 2);
        due("count(5)", tree.count(5), 22);
        // What rotted to tell of other blocks counts only now.
        rotBoth(26, 3, 256 * 95 + 7);
        due("count(1) before", tree.count(1), 71);
        // The root 0 alone has 0, 1, 16, 20, and by now 19 and 12 to 15; 95 is in use, and 0, which it tells.
        due("free(1)", tree.free(1), 8);
        due("count(1)", tree.count(1), 78);
        due("count(5)", tree.count(5), 1);
    }

    private void copyOfBelonging() {
        // The copy 0 is right.
        tree.rot(20, 1, 0, 256 * 90);
        due("rootOf(0, 3), copy 0", tree.rootOf(0, 3), 21);
        // The copy 1 is right.
        tree = new SummedParents();
        tree.rot(20, 0, 0, 256 * 90);
        due("rootOf(0, 3), copy 1", tree.rootOf(0, 3), 21);
        // None is: 20, 90, 0, which it tells, and the parents 1 to 3 with their leaves.
        tree.rot(20, 1, 0, 256 * 18);
        due("rootOf(0, 3), none", tree.rootOf(0, 3), 18);
        // The same of a parent.
        tree = new SummedParents();
        tree.rot(16, 1, 0, 256 + 7);
        due("rootOf(0, 3), copy 0", tree.rootOf(0, 3), 21);
        tree = new SummedParents();
        tree.rot(16, 0, 0, 256 + 7);
        due("rootOf(0, 3), copy 1", tree.rootOf(0, 3), 21);
        tree.rot(16, 1, 0, 256 * 90);
        due("rootOf(0, 3), none", tree.rootOf(0, 3), 20);
    }

    private void leftOut() {
        for (int block : new int[] {95, 96, 255}) {
            int more = block == 95 ? 1 : 0;
            tree = new SummedParents();
            rotBoth(16, 0, 256 * block);
            due("rootOf(0, 3), leaf " + block, tree.rootOf(0, 3), 20 + more);
            due("rootOf(0, 4), leaf " + block, tree.rootOf(0, 4), 20 + more);
            tree = new SummedParents();
            rotBoth(20, 0, 256 * block);
            // Of 95, which is empty, 0 is a child.
            due("rootOf(0, 3), parent " + block, tree.rootOf(0, 3), 16 + 2 * more);
        }
        // Freed are the blocks below 96 alone.
        tree = new SummedParents();
        tree.write(0, 0, 1);
        rotBoth(20, 3, 256 * 96);
        due("free(1)", tree.free(1), 3);
    }

    private void eightRoots() {
        writeOften(6);
        due("count(0)", tree.count(0), 7);
        due("write, the seventh", tree.write(0, 0, 7), 6);
        due("count(0)", tree.count(0), 8);
        due("write, the eighth", tree.write(0, 0, 8), LIMIT);
        due("count(0)", tree.count(0), 8);
        due("read(0, 0, 0)", tree.read(0, 0, 0), 7);
        due("read(7, 0, 0)", tree.read(7, 0, 0), 0);
        tree.free(7);
        due("write, with seven", tree.write(0, 0, 8), 7);
        due("write, with eight", tree.write(0, 0, 9), LIMIT);
    }

    // ---- texts.

    private void textLength() {
        due("count(7)", tree.count(7), 0);
        due("clearText()", tree.clearText(), 0);
        for (int length = 1; length <= 60; length++) {
            due("type", tree.type('0'), length);
        }
        due("type, the 61st", tree.type('0'), LIMIT);
        due("count(7)", tree.count(7), 60);
        due("clearText()", tree.clearText(), 60);
        due("count(7)", tree.count(7), 0);
        due("type", tree.type('0'), 1);
    }

    private void leafDigits() {
        dueFault(".0=1;", 0, 1, 0);
        dueNoFault("0.0=1;");
        dueNoFault("9.0=1;");
        dueNoFault("10.0=1;");
        dueNoFault("15.0=1;");
        dueFault("100.0=1;", 0, 1, 2);
        dueFault("000.0=1;", 0, 1, 2);
        dueFault("-1.0=1;", 0, 1, 0);
        dueFault("+1.0=1;", 0, 1, 0);
    }

    private void places() {
        dueFault("1.=1;", 0, 1, 2);
        for (int place = 0; place < 4; place++) {
            dueNoFault("1." + place + "=1;");
        }
        for (int place = 4; place < 10; place++) {
            dueFault("1." + place + "=1;", 0, 2, NONE);
        }
        dueFault("1.00=1;", 0, 1, 3);
        dueFault("1.-1=1;", 0, 1, 2);
    }

    private void valueDigits() {
        dueFault("1.0=;", 0, 1, 4);
        dueNoFault("1.0=0;");
        dueNoFault("1.0=9;");
        dueNoFault("1.0=10;");
        dueNoFault("1.0=99;");
        dueNoFault("1.0=100;");
        dueNoFault("1.0=999;");
        dueFault("1.0=1000;", 0, 1, 7);
        dueFault("1.0=0000;", 0, 1, 7);
        dueFault("1.0=-1;", 0, 1, 4);
        due("play()", tree.play(), IMPOSSIBLE);
        tree.clearText();
        type("1.0=999;2.0=10;3.0=9;");
        due("play()", tree.play(), 3);
        due("read(0, 1, 0)", tree.read(0, 1, 0), 999);
        due("read(0, 2, 0)", tree.read(0, 2, 0), 10);
        due("read(0, 3, 0)", tree.read(0, 3, 0), 9);
    }

    private void zeroAhead() {
        type("00.0=000;09.1=009;05.2=09;15.3=099;");
        due("play()", tree.play(), 4);
        due("read(0, 0, 0)", tree.read(0, 0, 0), 0);
        due("read(0, 9, 1)", tree.read(0, 9, 1), 9);
        due("read(0, 5, 2)", tree.read(0, 5, 2), 9);
        due("read(0, 15, 3)", tree.read(0, 15, 3), 99);
    }

    private void positions() {
        dueNoFault("");
        dueFault("x", 0, 1, 0);
        dueFault("1.0=1;x", 6, 1, 0);
        dueFault("1.0=1;10.0=1;x", 13, 1, 0);
        dueFault("1.0=1;10.0=100;16.0=0;x", 15, 2, NONE);
        // The last position that there can be.
        dueFault("00.0=000;00.0=000;00.0=000;00.0=000;00.0=000;00.0=000;0.0=1x", 54, 1, 5);
        dueFault("00.0=000;00.0=000;00.0=000;00.0=000;00.0=00;0.0=00;0.0=00;0x", 58, 1, 1);
        dueFault("00.0=000;00.0=000;00.0=000;00.0=000;00.0=00;0.0=00;0.0=000;x", 59, 1, 0);
    }

    private void reasons() {
        // All three apply to the first write, then the last two, then the last one.
        rotBoth(20, 0, 1);
        dueFault("16.4=1", 0, 1, 6);
        dueFault("16.4=1;", 0, 2, NONE);
        dueFault("15.4=1;", 0, 2, NONE);
        dueFault("16.3=1;", 0, 2, NONE);
        dueFault("15.3=1;", 0, 3, IMPOSSIBLE);
        dueFault("15.3=1", 0, 1, 6);
    }

    private void breaks() {
        String write = "12.3=456;";
        for (int index = 0; index < write.length(); index++) {
            tree = new SummedParents();
            for (char wrong : new char[] {'/', ':', ' ', '~', 'x', '-'}) {
                String broken = write.substring(0, index) + wrong + write.substring(index + 1);
                dueFault(broken, 0, 1, index);
                dueFault("1.0=1;" + broken, 6, 1, index);
            }
        }
        String shortest = "1.3=4;";
        for (int index = 0; index < shortest.length(); index++) {
            tree = new SummedParents();
            // Another sign of the form at the wrong place; a digit more of the leaf or the value isn't wrong.
            for (char sign : new char[] {';', '.', '='}) {
                if (shortest.charAt(index) != sign) {
                    dueFault(shortest.substring(0, index) + sign + shortest.substring(index), 0, 1, index);
                }
            }
        }
        dueNoFault("11.3=4;");
        dueFault("1.33=4;", 0, 1, 3);
    }

    private void endsTooEarly() {
        for (String write : new String[] {"12.3=456;", "1.3=4;", "01.0=00;"}) {
            tree = new SummedParents();
            for (int length = 1; length < write.length(); length++) {
                dueFault(write.substring(0, length), 0, 1, length);
                dueFault("1.0=1;" + write.substring(0, length), 6, 1, length);
            }
            dueNoFault(write);
        }
        // A text of 60 characters ends too early too.
        dueFault("00.0=000;00.0=000;00.0=000;00.0=000;00.0=000;00.0=000;0.0=00", 54, 1, 6);
    }

    private void noSuchLeafOrPlace() {
        dueNoFault("15.3=0;");
        dueFault("16.3=0;", 0, 2, NONE);
        dueFault("15.4=0;", 0, 2, NONE);
        dueFault("99.9=999;", 0, 2, NONE);
        dueFault("20.0=0;", 0, 2, NONE);
    }

    private void errorCodes() {
        writeOften(7);
        dueFault("1.0=1;", 0, 3, LIMIT);
        tree.free(7);
        dueFault("1.0=1;1.0=2;", 6, 3, LIMIT);
        // A write that is spoiled too, with eight roots and with seven.
        rotBoth(2, 0, 1);
        dueFault("1.0=1;2.0=2;", 6, 3, LIMIT);
        dueFault("2.0=2;", 0, 3, IMPOSSIBLE);
        tree = new SummedParents();
        crowd(List.of(93, 94, 95, 40, 41));
        dueNoFault("1.0=1;");
        dueFault("1.0=1;1.0=2;", 6, 3, LIMIT);
    }

    private void thoseAhead() {
        // The torn leaf of the first write has by chance the right sum, so the next ones have its values.
        tree.rot(21, 0, 2, 0);
        tree.rot(21, 0, 3, 251);
        tree.mishap(1);
        type("9.0=1;9.1=2;");
        due("play()", tree.play(), 2);
        dueContents(24, 1, 2, 0, 251);
        // A block that is laid by one ahead is what another parent was told to have as its leaf.
        tree = new SummedParents();
        forgeBoth(19, 0, 256 * 21 + 7, 3);
        due("read(0, 12, 0)", tree.read(0, 12, 0), 0);
        dueNoFault("12.0=1;");
        dueFault("0.0=1;12.0=1;", 6, 3, IMPOSSIBLE);
        dueNoFault("0.0=0;12.0=1;");
    }

    private void fullText() {
        type("00.0=001;15.3=002;00.0=003;15.3=004;00.0=005;15.3=006;0.0=7;");
        due("count(7)", tree.count(7), 60);
        due("fault(0)", tree.fault(0), NONE);
        due("play()", tree.play(), 7);
        due("count(0)", tree.count(0), 8);
        due("count(6)", tree.count(6), 1);
        due("read(0, 0, 0)", tree.read(0, 0, 0), 7);
        due("read(0, 15, 3)", tree.read(0, 15, 3), 6);
        due("play(), again", tree.play(), IMPOSSIBLE);
        due("undo()", tree.undo(), 0);
        due("count(0)", tree.count(0), 1);
    }

    // ---- changes and errors.

    private void dueStates(String call, int answer, int states) {
        due(call + " is no error", answer >= 0 ? 1 : 0, 1);
        due("count(6) after " + call, tree.count(6), states);
    }

    private void whatIsAChange() {
        dueStates("read", tree.read(0, 0, 0), 0);
        dueStates("from", tree.from(0, 0, 0), 0);
        dueStates("way", tree.way(0, 0, 0, 0), 0);
        dueStates("content", tree.content(0, 0, 0), 0);
        dueStates("leaves", tree.leaves(0, 0), 0);
        dueStates("rootOf", tree.rootOf(0, 4), 0);
        dueStates("unlike", tree.unlike(0, 0), 0);
        dueStates("count", tree.count(0), 0);
        dueStates("type", tree.type('x'), 0);
        dueStates("fault", tree.fault(0), 0);
        dueStates("clearText", tree.clearText(), 0);
        dueStates("write", tree.write(0, 0, 1), 1);
        dueStates("mishap", tree.mishap(1), 2);
        dueStates("rot", tree.rot(0, 0, 0, 1), 3);
        dueStates("undo", tree.undo(), 2);
        dueStates("undo", tree.undo(), 1);
        dueStates("mend", tree.mend(0, 0), 2);
        dueStates("scrub", tree.scrub(), 3);
        dueStates("undo", tree.undo(), 2);
        dueStates("undo", tree.undo(), 1);
        dueStates("free", tree.free(1), 2);
        dueStates("back", tree.back(0), 3);
        dueStates("undo", tree.undo(), 2);
        dueStates("undo", tree.undo(), 1);
        dueStates("play", tree.play(), 2);
        dueStates("back", tree.back(1), 3);
    }

    private void emptyChanges() {
        tree.mishap(0);
        due("count(6) after mishap(0)", tree.count(6), 1);
        tree.rot(0, 0, 0, 0);
        due("count(6) after rot(0, 0, 0, 0)", tree.count(6), 2);
        tree.mend(0, 0);
        due("count(6) after mend(0, 0)", tree.count(6), 3);
        tree = new SummedParents();
        tree.scrub();
        due("count(6) after scrub()", tree.count(6), 1);
        tree.back(0);
        due("count(6) after back(0)", tree.count(6), 2);
        tree.play();
        due("count(6) after play()", tree.count(6), 3);
        tree = new SummedParents();
        tree.write(0, 0, 0);
        due("count(6) after write(0, 0, 0)", tree.count(6), 1);
        due("count(0) after write(0, 0, 0)", tree.count(0), 2);
    }

    private void fourStates() {
        due("undo() of none", tree.undo(), IMPOSSIBLE);
        for (int call = 1; call <= 5; call++) {
            tree.rot(50, 0, 0, call);
            due("count(6)", tree.count(6), Math.min(call, 3));
        }
        due("undo()", tree.undo(), 2);
        due("content(50, 0, 0)", tree.content(50, 0, 0), 4);
        due("undo()", tree.undo(), 1);
        due("content(50, 0, 0)", tree.content(50, 0, 0), 3);
        due("undo()", tree.undo(), 0);
        due("content(50, 0, 0)", tree.content(50, 0, 0), 2);
        due("undo(), the fourth", tree.undo(), IMPOSSIBLE);
        due("content(50, 0, 0)", tree.content(50, 0, 0), 2);
        // Three are kept and none is dropped.
        tree = new SummedParents();
        for (int call = 1; call <= 3; call++) {
            tree.rot(50, 0, 0, call);
        }
        for (int left = 2; left >= 0; left--) {
            due("undo()", tree.undo(), left);
            due("content(50, 0, 0)", tree.content(50, 0, 0), left);
        }
    }

    private void allButText() {
        tree.write(0, 0, 1);
        tree.mishap(3);
        type("1.0=1;");
        tree.free(1);
        tree.clearText();
        type("x");
        due("undo()", tree.undo(), 2);
        dueCounts(2, 72, 3, 1, 0, 24, 2, 1);
        due("fault(1)", tree.fault(1), 1);
        due("undo()", tree.undo(), 1);
        dueCounts(2, 72, 0, 1, 0, 24, 1, 1);
        due("undo()", tree.undo(), 0);
        dueCounts(1, 75, 0, 0, 0, 21, 0, 1);
        dueContents(21, 0, 0, 0, 0);
        dueContents(23, 0, 0, 0, 0);
        due("rootOf(0, 1)", tree.rootOf(0, 1), 20);
    }

    private void invalidFirst() {
        rotBoth(20, 0, 1);
        due("read, leaf", tree.read(0, 16, 0), INVALID);
        due("read, place", tree.read(0, 0, 4), INVALID);
        due("read", tree.read(0, 0, 0), IMPOSSIBLE);
        due("from, level", tree.from(0, 0, 3), INVALID);
        due("from", tree.from(0, 0, 1), NONE);
        due("way, what", tree.way(0, 0, 1, 2), INVALID);
        due("way", tree.way(0, 0, 1, 1), NONE);
        due("write, value", tree.write(0, 0, 1000), INVALID);
        due("write", tree.write(0, 0, 999), IMPOSSIBLE);
        due("unlike, other", tree.unlike(0, 1), INVALID);
        due("unlike, one", tree.unlike(1, 0), INVALID);
        due("free, no root", tree.free(1), INVALID);
        due("free", tree.free(0), IMPOSSIBLE);
        due("fault, what", tree.fault(3), INVALID);
        due("fault", tree.fault(2), NONE);
        type("16.0=1;");
        due("fault, what", tree.fault(-1), INVALID);
        due("fault", tree.fault(2), NONE);
        type("x".repeat(53));
        due("type, character", tree.type(127), INVALID);
        due("type, character", tree.type(31), INVALID);
        due("type", tree.type(126), LIMIT);
    }

    private void limitAhead() {
        writeOften(7);
        rotBoth(tree.rootOf(0, 1), 0, 1);
        due("write with 8 roots, spoiled", tree.write(0, 0, 1), LIMIT);
        due("write with 8 roots, spoiled, no leaf", tree.write(16, 0, 1), INVALID);
        tree.free(7);
        due("write with 7 roots, spoiled", tree.write(0, 0, 1), IMPOSSIBLE);
        tree = new SummedParents();
        crowd(List.of(94, 95));
        rotBoth(tree.rootOf(0, 1), 0, 1);
        due("write with 2 free, spoiled", tree.write(0, 0, 1), LIMIT);
        due("write with 2 free, spoiled, no place", tree.write(0, 4, 1), INVALID);
        tree = new SummedParents();
        crowd(List.of(93, 94, 95));
        rotBoth(tree.rootOf(0, 1), 0, 1);
        due("write with 3 free, spoiled", tree.write(0, 0, 1), IMPOSSIBLE);
    }

    private void indexOfRoots() {
        for (int roots = 1; roots <= 8; roots++) {
            tree = new SummedParents();
            writeOften(roots - 1);
            for (int index : new int[] {-1, 0, roots - 1, roots, 8, Integer.MIN_VALUE, Integer.MAX_VALUE}) {
                boolean wrong = index < 0 || index >= roots;
                due("read of " + index, tree.read(index, 1, 0), wrong ? INVALID : 0);
                due("from of " + index, tree.from(index, 1, 2), wrong ? INVALID : 0);
                due("way of " + index, tree.way(index, 1, 2, 0), wrong ? INVALID : 1);
                due("mend of " + index, tree.mend(index, 1), wrong ? INVALID : 0);
                due("leaves of " + index, tree.leaves(index, 0), wrong ? INVALID : 0);
                due("rootOf of " + index, tree.rootOf(index, 0), wrong ? INVALID : roots - 1 - index);
                due("unlike, one " + index, tree.unlike(index, 0), wrong ? INVALID : index == 0 ? 0 : 1);
                due("unlike, other " + index, tree.unlike(0, index), wrong ? INVALID : index == 0 ? 0 : 1);
                if (wrong) {
                    due("free of " + index, tree.free(index), INVALID);
                    due("back of " + index, tree.back(index), INVALID);
                }
            }
            due("count(0)", tree.count(0), roots);
        }
    }
}
