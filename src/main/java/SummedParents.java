/**
 * A tree of blocks in which each parent keeps the sums of its children.
 *
 * All rows are made in constructors and used again, so that no call makes an object.
 */
public final class SummedParents {
    public static final int INVALID_ARGUMENT = -1000001;
    public static final int NOT_POSSIBLE = -1000002;
    public static final int LIMIT_REACHED = -1000003;
    public static final int NOT_FOUND = -1000004;

    private static final int BLOCKS = 96;
    private static final int COPIES = 2;
    private static final int PLACES = 4;
    private static final int NUMBERS_END = 65536;
    private static final int LEAVES = 16;
    private static final int CHILDREN = 4;
    private static final int VALUES_END = 1000;
    private static final int MOST_ROOTS = 8;
    private static final int MOST_STATES = 3;
    private static final int MOST_CHARACTERS = 60;

    /** A child is told as CHILD times its block plus its sum. */
    private static final int CHILD = 256;
    private static final int SUMS_END = 251;
    /** No sum that is told is this one. */
    private static final int NO_SUM = -1;

    private static final int LEVELS = 3;
    private static final int ROOT = 0;
    private static final int PARENT = 1;
    private static final int LEAF = 2;

    /** Stands for a copy when a block is spoiled. */
    private static final int NEITHER = 2;

    private static final int NO_MISHAP = 0;
    private static final int TORN = 1;
    private static final int LOST = 2;
    private static final int SWAPPED = 3;
    private static final int MISHAPS = 4;
    private static final int TORN_AFTER = 2;

    private static final int NO_FAULT = 0;
    private static final int BAD_FORM = 1;
    private static final int BAD_TARGET = 2;
    private static final int BAD_WRITE = 3;

    private final State state;
    private final State trial;
    private final History history;
    private final Script script;
    private final Verdict verdict;
    private final Way way;
    private final BlockSet ownBlocks;
    private final BlockSet otherBlocks;

    public SummedParents() {
        state = new State();
        state.plant();
        trial = new State();
        history = new History();
        script = new Script();
        verdict = new Verdict();
        way = new Way();
        ownBlocks = new BlockSet();
        otherBlocks = new BlockSet();
    }

    // ---- writes.

    public int write(int leaf, int place, int value) {
        if (!below(leaf, LEAVES) || !below(place, PLACES) || !below(value, VALUES_END)) {
            return INVALID_ARGUMENT;
        }
        int error = state.prepareWrite(way, leaf);
        if (error != 0) {
            return error;
        }
        history.keep(state);
        return state.carryOut(way, leaf, place, value);
    }

    public int mishap(int kind) {
        if (!below(kind, MISHAPS)) {
            return INVALID_ARGUMENT;
        }
        history.keep(state);
        int before = state.nextMishap;
        state.nextMishap = kind;
        return before;
    }

    public int rot(int block, int copy, int place, int value) {
        if (!below(block, BLOCKS) || !below(copy, COPIES)
                || !below(place, PLACES) || !below(value, NUMBERS_END)) {
            return INVALID_ARGUMENT;
        }
        history.keep(state);
        int before = state.blocks.numberAt(copy, block, place);
        state.blocks.put(copy, block, place, value);
        return before;
    }

    // ---- reading.

    public int read(int root, int leaf, int place) {
        if (!isRoot(root) || !below(leaf, LEAVES) || !below(place, PLACES)) {
            return INVALID_ARGUMENT;
        }
        state.findWay(way, root, leaf);
        return way.isSpoiled() ? NOT_POSSIBLE : way.numberAt(LEAF, place);
    }

    public int from(int root, int leaf, int level) {
        if (!isRoot(root) || !below(leaf, LEAVES) || !below(level, LEVELS)) {
            return INVALID_ARGUMENT;
        }
        state.findWay(way, root, leaf);
        return way.tells(level) ? way.copyAt(level) : NOT_FOUND;
    }

    public int way(int root, int leaf, int level, int what) {
        if (!isRoot(root) || !below(leaf, LEAVES) || !below(level, LEVELS) || !below(what, 2)) {
            return INVALID_ARGUMENT;
        }
        state.findWay(way, root, leaf);
        if (!way.tells(level)) {
            return NOT_FOUND;
        }
        return what == 0 ? way.blockAt(level) : way.sumAt(level);
    }

    public int content(int block, int copy, int place) {
        if (!below(block, BLOCKS) || !below(copy, COPIES) || !below(place, PLACES + 1)) {
            return INVALID_ARGUMENT;
        }
        if (place == PLACES) {
            return state.blocks.sumOf(copy, block);
        }
        return state.blocks.numberAt(copy, block, place);
    }

    // ---- mending.

    public int mend(int root, int leaf) {
        if (!isRoot(root) || !below(leaf, LEAVES)) {
            return INVALID_ARGUMENT;
        }
        history.keep(state);
        return state.mendWay(way, root, leaf);
    }

    public int scrub() {
        history.keep(state);
        int unlike = 0;
        for (int root = 0; root < state.roots.size(); root++) {
            for (int leaf = 0; leaf < LEAVES; leaf++) {
                // A mended block has like copies from then on, so none is counted twice.
                unlike += state.mendWay(way, root, leaf);
            }
        }
        return unlike;
    }

    public int leaves(int root, int what) {
        if (!isRoot(root) || !below(what, 3)) {
            return INVALID_ARGUMENT;
        }
        int set = 0;
        for (int leaf = 0; leaf < LEAVES; leaf++) {
            state.findWay(way, root, leaf);
            if (isWayOfKind(what)) {
                set |= 1 << leaf;
            }
        }
        return set;
    }

    // ---- roots.

    public int free(int root) {
        if (!isRoot(root)) {
            return INVALID_ARGUMENT;
        }
        if (root == 0) {
            return NOT_POSSIBLE;
        }
        history.keep(state);
        state.roots.remove(root, 1);
        return state.settleUse(ownBlocks);
    }

    public int back(int root) {
        if (!isRoot(root)) {
            return INVALID_ARGUMENT;
        }
        history.keep(state);
        if (root == 0) {
            return 0;
        }
        state.roots.remove(0, root);
        return state.settleUse(ownBlocks);
    }

    public int rootOf(int root, int what) {
        if (!isRoot(root) || !below(what, 5)) {
            return INVALID_ARGUMENT;
        }
        switch (what) {
            case 0:
                return state.roots.numberAt(root);
            case 1:
                return state.roots.blockAt(root);
            case 2:
                return state.roots.sumAt(root);
            case 3:
                gatherBlocks(root);
                return ownBlocks.size();
            default:
                gatherBlocks(root);
                return ownBlocks.sizeWithout(otherBlocks);
        }
    }

    public int unlike(int one, int other) {
        if (!isRoot(one) || !isRoot(other)) {
            return INVALID_ARGUMENT;
        }
        return state.unlikeLeaves(one, other);
    }

    public int count(int what) {
        switch (what) {
            case 0:
                return state.roots.size();
            case 1:
                return BLOCKS - state.used.size();
            case 2:
                return state.nextMishap;
            case 3:
                return state.writes;
            case 4:
                return state.unlikeInUse();
            case 5:
                return lowestFree();
            case 6:
                return history.size();
            case 7:
                return script.length();
            default:
                return INVALID_ARGUMENT;
        }
    }

    public int undo() {
        if (history.size() == 0) {
            return NOT_POSSIBLE;
        }
        history.restoreLatest(state);
        return history.size();
    }

    // ---- texts.

    public int type(int character) {
        if (character < 32 || character > 126) {
            return INVALID_ARGUMENT;
        }
        if (script.length() >= MOST_CHARACTERS) {
            return LIMIT_REACHED;
        }
        script.append((char) character);
        return script.length();
    }

    public int clearText() {
        int before = script.length();
        script.clear();
        return before;
    }

    public int fault(int what) {
        if (!below(what, 3)) {
            return INVALID_ARGUMENT;
        }
        tryText();
        if (verdict.reason == NO_FAULT) {
            return NOT_FOUND;
        }
        if (what == 0) {
            return verdict.position;
        }
        if (what == 1) {
            return verdict.reason;
        }
        return verdict.reason == BAD_TARGET ? NOT_FOUND : verdict.cause;
    }

    public int play() {
        tryText();
        if (verdict.reason != NO_FAULT) {
            return NOT_POSSIBLE;
        }
        history.keep(state);
        state.copyFrom(trial);
        return verdict.writes;
    }

    // ---- helpers of the calls.

    private boolean isRoot(int root) {
        return below(root, state.roots.size());
    }

    private int lowestFree() {
        int block = state.used.lowestOutside();
        return block < 0 ? NOT_FOUND : block;
    }

    /** Tells of the way found last whether it is of a kind that leaves() asks for. */
    private boolean isWayOfKind(int what) {
        if (what == 0) {
            return way.isSpoiled();
        }
        if (way.isSpoiled()) {
            return false;
        }
        return what == 1 ? state.hasUnlikeCopies(way) : way.takesFrom(1);
    }

    /** Puts the blocks of a root into ownBlocks and those of all other roots into otherBlocks. */
    private void gatherBlocks(int root) {
        ownBlocks.clear();
        otherBlocks.clear();
        for (int each = 0; each < state.roots.size(); each++) {
            state.addBlocksOf(each, each == root ? ownBlocks : otherBlocks);
        }
    }

    /** Does the writes of the text on a trial state, up to the first one that is not possible. */
    private void tryText() {
        trial.copyFrom(state);
        verdict.clear();
        script.rewind();
        for (int round = 0; round < MOST_CHARACTERS && !script.isAtEnd(); round++) {
            int start = script.position();
            if (!script.parseWrite()) {
                verdict.blame(start, BAD_FORM, script.position() - start);
                return;
            }
            if (!below(script.leaf, LEAVES) || !below(script.place, PLACES)) {
                verdict.blame(start, BAD_TARGET, 0);
                return;
            }
            int error = trial.prepareWrite(way, script.leaf);
            if (error != 0) {
                verdict.blame(start, BAD_WRITE, error);
                return;
            }
            trial.carryOut(way, script.leaf, script.place, script.value);
            verdict.writes++;
        }
    }

    private static boolean below(int value, int end) {
        return value >= 0 && value < end;
    }

    /** The sum of the four numbers that begin at an index. */
    private static int sumFrom(int[] numbers, int start) {
        if (start < 0 || start > numbers.length - PLACES) {
            return NO_SUM;
        }
        return (4 * numbers[start] + 3 * numbers[start + 1]
                + 2 * numbers[start + 2] + numbers[start + 3] + 7) % SUMS_END;
    }

    /** Which child of a block of a level leads on to a leaf. */
    private static int childTowards(int leaf, int level) {
        return level == ROOT ? leaf / CHILDREN : leaf % CHILDREN;
    }

    /** The contents of all blocks, in both copies. */
    private static final class Blocks {
        private final int[] numbers = new int[COPIES * BLOCKS * PLACES];

        private int startOf(int copy, int block) {
            if (copy < 0 || copy >= COPIES || block < 0 || block >= BLOCKS) {
                return -1;
            }
            return (copy * BLOCKS + block) * PLACES;
        }

        int numberAt(int copy, int block, int place) {
            int start = startOf(copy, block);
            return start < 0 || !below(place, PLACES) ? 0 : numbers[start + place];
        }

        void put(int copy, int block, int place, int value) {
            int start = startOf(copy, block);
            if (start >= 0 && below(place, PLACES)) {
                numbers[start + place] = value;
            }
        }

        int sumOf(int copy, int block) {
            return sumFrom(numbers, startOf(copy, block));
        }

        boolean alike(int block) {
            for (int place = 0; place < PLACES; place++) {
                if (numberAt(0, block, place) != numberAt(1, block, place)) {
                    return false;
                }
            }
            return true;
        }

        /** From which copy a block is taken, or NEITHER if it is spoiled. */
        int copyWithSum(int block, int sum) {
            if (!below(block, BLOCKS)) {
                return NEITHER;
            }
            if (sumOf(0, block) == sum) {
                return 0;
            }
            return sumOf(1, block) == sum ? 1 : NEITHER;
        }

        /** Lays the first numbers, as many as are told, of a level of a way. */
        void lay(int copy, int block, Way source, int level, int howMany) {
            for (int place = 0; place < PLACES && place < howMany; place++) {
                put(copy, block, place, source.numberAt(level, place));
            }
        }

        void copyFrom(Blocks other) {
            System.arraycopy(other.numbers, 0, numbers, 0, numbers.length);
        }
    }

    /** A set of blocks. */
    private static final class BlockSet {
        private final boolean[] members = new boolean[BLOCKS];

        void clear() {
            for (int block = 0; block < BLOCKS; block++) {
                members[block] = false;
            }
        }

        void add(int block) {
            if (below(block, BLOCKS)) {
                members[block] = true;
            }
        }

        boolean holds(int block) {
            return below(block, BLOCKS) && members[block];
        }

        int size() {
            int size = 0;
            for (int block = 0; block < BLOCKS; block++) {
                size += members[block] ? 1 : 0;
            }
            return size;
        }

        int sizeWithout(BlockSet other) {
            int size = 0;
            for (int block = 0; block < BLOCKS; block++) {
                size += members[block] && !other.members[block] ? 1 : 0;
            }
            return size;
        }

        /** The lowest block that is not in the set, or -1. */
        int lowestOutside() {
            for (int block = 0; block < BLOCKS; block++) {
                if (!members[block]) {
                    return block;
                }
            }
            return -1;
        }

        void copyFrom(BlockSet other) {
            for (int block = 0; block < BLOCKS; block++) {
                members[block] = other.members[block];
            }
        }
    }

    /** The list of roots, the latest one at the index 0. */
    private static final class RootList {
        private final int[] numbers = new int[MOST_ROOTS];
        private final int[] blocks = new int[MOST_ROOTS];
        private final int[] sums = new int[MOST_ROOTS];
        private int size;

        int size() {
            return size;
        }

        int numberAt(int index) {
            return below(index, MOST_ROOTS) ? numbers[index] : 0;
        }

        int blockAt(int index) {
            return below(index, MOST_ROOTS) ? blocks[index] : BLOCKS;
        }

        int sumAt(int index) {
            return below(index, MOST_ROOTS) ? sums[index] : NO_SUM;
        }

        void addLatest(int number, int block, int sum) {
            if (size >= MOST_ROOTS) {
                return;
            }
            for (int index = size; index > 0; index--) {
                move(index - 1, index);
            }
            numbers[0] = number;
            blocks[0] = block;
            sums[0] = sum;
            size++;
        }

        void remove(int first, int howMany) {
            if (first < 0 || howMany < 0 || howMany > size - first) {
                return;
            }
            for (int index = first + howMany; index < size; index++) {
                move(index, index - howMany);
            }
            size -= howMany;
        }

        private void move(int source, int target) {
            if (below(source, MOST_ROOTS) && below(target, MOST_ROOTS)) {
                numbers[target] = numbers[source];
                blocks[target] = blocks[source];
                sums[target] = sums[source];
            }
        }

        void copyFrom(RootList other) {
            for (int index = 0; index < MOST_ROOTS; index++) {
                numbers[index] = other.numbers[index];
                blocks[index] = other.blocks[index];
                sums[index] = other.sums[index];
            }
            size = other.size;
        }
    }

    /**
     * The blocks from a root down to a leaf, with the contents that were taken for them: kept
     * here because mending and writing go on with them after the blocks have changed.
     */
    private static final class Way {
        private final int[] blocks = new int[LEVELS];
        private final int[] sums = new int[LEVELS];
        private final int[] copies = new int[LEVELS];
        private final int[] taken = new int[LEVELS * PLACES];
        private int told;

        void clear() {
            told = 0;
        }

        /** Adds the block of the next level, as its parent tells it. */
        void add(int block, int sum, int copy) {
            if (told < LEVELS) {
                blocks[told] = block;
                sums[told] = sum;
                copies[told] = copy;
                told++;
            }
        }

        /** Tells whether no block above a level is spoiled. */
        boolean tells(int level) {
            return below(level, told) && told <= LEVELS;
        }

        boolean isSpoiled() {
            return copyAt(LEAF) == NEITHER;
        }

        int blockAt(int level) {
            return tells(level) ? blocks[level] : BLOCKS;
        }

        int sumAt(int level) {
            return tells(level) ? sums[level] : NO_SUM;
        }

        int copyAt(int level) {
            return tells(level) ? copies[level] : NEITHER;
        }

        boolean takesFrom(int copy) {
            for (int level = 0; level < LEVELS; level++) {
                if (copyAt(level) == copy) {
                    return true;
                }
            }
            return false;
        }

        int numberAt(int level, int place) {
            return below(level, LEVELS) && below(place, PLACES) ? taken[level * PLACES + place] : 0;
        }

        void put(int level, int place, int number) {
            if (below(level, LEVELS) && below(place, PLACES)) {
                taken[level * PLACES + place] = number;
            }
        }

        int takenSum(int level) {
            return below(level, LEVELS) ? sumFrom(taken, level * PLACES) : NO_SUM;
        }
    }

    /** All that a change records: everything but the text. */
    private static final class State {
        private final Blocks blocks = new Blocks();
        private final BlockSet used = new BlockSet();
        private final RootList roots = new RootList();
        private int nextMishap = NO_MISHAP;
        private int writes;

        void copyFrom(State other) {
            blocks.copyFrom(other.blocks);
            used.copyFrom(other.used);
            roots.copyFrom(other.roots);
            nextMishap = other.nextMishap;
            writes = other.writes;
        }

        /** Makes the root 0 with its blocks; a new content is 0 as it is. */
        void plant() {
            int firstParent = LEAVES;
            int root = LEAVES + CHILDREN;
            for (int block = 0; block < root; block++) {
                int parent = block < LEAVES ? firstParent + block / CHILDREN : root;
                int child = CHILD * block + blocks.sumOf(0, block);
                blocks.put(0, parent, block % CHILDREN, child);
                blocks.put(1, parent, block % CHILDREN, child);
                used.add(block);
            }
            used.add(root);
            roots.addLatest(0, root, blocks.sumOf(0, root));
        }

        void findWay(Way way, int root, int leaf) {
            way.clear();
            int block = roots.blockAt(root);
            int sum = roots.sumAt(root);
            for (int level = ROOT; level <= LEAF; level++) {
                int copy = blocks.copyWithSum(block, sum);
                way.add(block, sum, copy);
                if (copy == NEITHER) {
                    return;
                }
                for (int place = 0; place < PLACES; place++) {
                    way.put(level, place, blocks.numberAt(copy, block, place));
                }
                int child = way.numberAt(level, childTowards(leaf, level));
                block = child / CHILD;
                sum = child % CHILD;
            }
        }

        /** Finds the way of a write; returns 0, or the error of the write. */
        int prepareWrite(Way way, int leaf) {
            if (roots.size() >= MOST_ROOTS || BLOCKS - used.size() < LEVELS) {
                return LIMIT_REACHED;
            }
            findWay(way, 0, leaf);
            return way.isSpoiled() ? NOT_POSSIBLE : 0;
        }

        /** Does the write of which the way has been found; returns the value that was there. */
        int carryOut(Way way, int leaf, int place, int value) {
            int before = way.numberAt(LEAF, place);
            int leafBlock = useLowest();
            int parentBlock = useLowest();
            int rootBlock = useLowest();
            way.put(LEAF, place, value);
            way.put(PARENT, childTowards(leaf, PARENT), CHILD * leafBlock + way.takenSum(LEAF));
            way.put(ROOT, childTowards(leaf, ROOT), CHILD * parentBlock + way.takenSum(PARENT));
            layFirstCopy(way, leafBlock, parentBlock);
            blocks.lay(0, rootBlock, way, ROOT, PLACES);
            blocks.lay(1, leafBlock, way, LEAF, PLACES);
            blocks.lay(1, parentBlock, way, PARENT, PLACES);
            blocks.lay(1, rootBlock, way, ROOT, PLACES);
            nextMishap = NO_MISHAP;
            writes++;
            // Every root but the first one came by a write, so its number is that of the writes.
            roots.addLatest(writes, rootBlock, way.takenSum(ROOT));
            return before;
        }

        /** Lays the leaf and the parent in the copy 0, where mishaps strike. */
        private void layFirstCopy(Way way, int leafBlock, int parentBlock) {
            switch (nextMishap) {
                case TORN:
                    blocks.lay(0, leafBlock, way, LEAF, TORN_AFTER);
                    blocks.lay(0, parentBlock, way, PARENT, PLACES);
                    break;
                case LOST:
                    blocks.lay(0, leafBlock, way, LEAF, PLACES);
                    break;
                case SWAPPED:
                    blocks.lay(0, leafBlock, way, PARENT, PLACES);
                    blocks.lay(0, parentBlock, way, LEAF, PLACES);
                    break;
                default:
                    blocks.lay(0, leafBlock, way, LEAF, PLACES);
                    blocks.lay(0, parentBlock, way, PARENT, PLACES);
                    break;
            }
        }

        private int useLowest() {
            int block = used.lowestOutside();
            used.add(block);
            return block;
        }

        /** Finds a way and mends it; returns how many blocks that were mended had unlike copies. */
        int mendWay(Way way, int root, int leaf) {
            findWay(way, root, leaf);
            int unlike = 0;
            for (int level = ROOT; level <= LEAF && way.copyAt(level) != NEITHER; level++) {
                int block = way.blockAt(level);
                if (!blocks.alike(block)) {
                    unlike++;
                }
                blocks.lay(0, block, way, level, PLACES);
                blocks.lay(1, block, way, level, PLACES);
            }
            return unlike;
        }

        boolean hasUnlikeCopies(Way way) {
            for (int level = ROOT; level <= LEAF; level++) {
                if (!blocks.alike(way.blockAt(level))) {
                    return true;
                }
            }
            return false;
        }

        int unlikeInUse() {
            int unlike = 0;
            for (int block = 0; block < BLOCKS; block++) {
                if (used.holds(block) && !blocks.alike(block)) {
                    unlike++;
                }
            }
            return unlike;
        }

        void addBlocksOf(int root, BlockSet set) {
            int block = roots.blockAt(root);
            int copy = copyToFollow(block, roots.sumAt(root));
            set.add(block);
            for (int place = 0; place < PLACES; place++) {
                addParent(blocks.numberAt(copy, block, place), set);
            }
        }

        private void addParent(int told, BlockSet set) {
            int block = told / CHILD;
            if (!below(block, BLOCKS)) {
                return;
            }
            int copy = copyToFollow(block, told % CHILD);
            set.add(block);
            for (int place = 0; place < PLACES; place++) {
                set.add(blocks.numberAt(copy, block, place) / CHILD);
            }
        }

        /** Also what is spoiled has children, so that they aren't freed under it. */
        private int copyToFollow(int block, int sum) {
            int copy = blocks.copyWithSum(block, sum);
            return copy == NEITHER ? 0 : copy;
        }

        /** Puts in use what belongs to roots alone; returns how many blocks are free by that. */
        int settleUse(BlockSet before) {
            before.copyFrom(used);
            used.clear();
            for (int root = 0; root < roots.size(); root++) {
                addBlocksOf(root, used);
            }
            return before.sizeWithout(used);
        }

        /** The leaves whose blocks are unlike, or NOT_POSSIBLE. */
        int unlikeLeaves(int one, int other) {
            int oneBlock = roots.blockAt(one);
            int otherBlock = roots.blockAt(other);
            if (oneBlock == otherBlock) {
                return 0;
            }
            int oneCopy = blocks.copyWithSum(oneBlock, roots.sumAt(one));
            int otherCopy = blocks.copyWithSum(otherBlock, roots.sumAt(other));
            if (oneCopy == NEITHER || otherCopy == NEITHER) {
                return NOT_POSSIBLE;
            }
            int set = 0;
            for (int parent = 0; parent < CHILDREN; parent++) {
                int part = unlikeChildren(blocks.numberAt(oneCopy, oneBlock, parent),
                        blocks.numberAt(otherCopy, otherBlock, parent));
                if (part < 0) {
                    return part;
                }
                set |= part << (CHILDREN * parent);
            }
            return set;
        }

        /** The children that are unlike in two parents, each told by its root, or NOT_POSSIBLE. */
        private int unlikeChildren(int one, int other) {
            int oneBlock = one / CHILD;
            int otherBlock = other / CHILD;
            if (oneBlock == otherBlock) {
                return 0;
            }
            int oneCopy = blocks.copyWithSum(oneBlock, one % CHILD);
            int otherCopy = blocks.copyWithSum(otherBlock, other % CHILD);
            if (oneCopy == NEITHER || otherCopy == NEITHER) {
                return NOT_POSSIBLE;
            }
            int set = 0;
            for (int child = 0; child < CHILDREN; child++) {
                int oneLeaf = blocks.numberAt(oneCopy, oneBlock, child) / CHILD;
                int otherLeaf = blocks.numberAt(otherCopy, otherBlock, child) / CHILD;
                if (oneLeaf != otherLeaf) {
                    set |= 1 << child;
                }
            }
            return set;
        }
    }

    /** The states before the latest changes, the oldest one first. */
    private static final class History {
        private final State[] states = new State[MOST_STATES];
        private int size;

        History() {
            for (int index = 0; index < MOST_STATES; index++) {
                states[index] = new State();
            }
        }

        int size() {
            return size;
        }

        void keep(State now) {
            if (size >= MOST_STATES) {
                dropOldest();
            }
            if (below(size, MOST_STATES)) {
                states[size].copyFrom(now);
                size++;
            }
        }

        /** The dropped state's rows go to the end, to be used again. */
        private void dropOldest() {
            State oldest = states[0];
            for (int index = 1; index < MOST_STATES; index++) {
                states[index - 1] = states[index];
            }
            states[MOST_STATES - 1] = oldest;
            size = MOST_STATES - 1;
        }

        void restoreLatest(State target) {
            if (size > 0 && size <= MOST_STATES) {
                size--;
                target.copyFrom(states[size]);
            }
        }
    }

    /** The text, and the place up to which it has been gone through. */
    private static final class Script {
        private static final int NO_CHARACTER = -1;

        private final char[] characters = new char[MOST_CHARACTERS];
        private int length;
        private int at;
        private boolean broken;
        private int leaf;
        private int place;
        private int value;

        int length() {
            return length;
        }

        void append(char character) {
            if (below(length, MOST_CHARACTERS)) {
                characters[length] = character;
                length++;
            }
        }

        void clear() {
            length = 0;
        }

        void rewind() {
            at = 0;
        }

        boolean isAtEnd() {
            return at >= length;
        }

        int position() {
            return at;
        }

        /** Goes through a write; if it is not of the form, the position is where it breaks off. */
        boolean parseWrite() {
            broken = false;
            leaf = parseNumber(2);
            parseSign('.');
            // One digit of any kind: that there is no such place is a reason of its own.
            place = parseNumber(1);
            parseSign('=');
            value = parseNumber(3);
            parseSign(';');
            return !broken;
        }

        private int parseNumber(int mostDigits) {
            int number = 0;
            int digits = 0;
            while (!broken && digits < mostDigits && isDigit(current())) {
                number = 10 * number + (current() - '0');
                digits++;
                at++;
            }
            if (digits == 0) {
                broken = true;
            }
            return number;
        }

        private void parseSign(char sign) {
            if (!broken && current() == sign) {
                at++;
            } else {
                broken = true;
            }
        }

        private int current() {
            return at < length && below(at, MOST_CHARACTERS) ? characters[at] : NO_CHARACTER;
        }

        private static boolean isDigit(int character) {
            return character >= '0' && character <= '9';
        }
    }

    /** What has been found of the text: its first fault, or how many writes it has. */
    private static final class Verdict {
        private int position;
        private int reason;
        private int cause;
        private int writes;

        void clear() {
            position = 0;
            reason = NO_FAULT;
            cause = 0;
            writes = 0;
        }

        void blame(int where, int why, int by) {
            position = where;
            reason = why;
            cause = by;
        }
    }
}
