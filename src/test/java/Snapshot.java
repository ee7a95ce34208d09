import java.util.ArrayList;
import java.util.List;

/** All that can be asked of a tree after a run, the states of its history among it. */
final class Snapshot {
    /** What is done on a new object. */
    interface Run {
        void on(SummedParents tree);
    }

    /** One call, and what it answers. */
    interface Call {
        int on(SummedParents tree);
    }

    /** An object is meant for 512 calls, so that the questions are shared out among some. */
    private static final int QUESTIONS_EACH = 380;
    private static final int STATES = 3;

    private static final List<Call> QUESTIONS = questions();

    private Snapshot() {
    }

    static List<Integer> of(Run run) {
        List<Integer> answers = new ArrayList<>();
        for (int undone = 0; undone <= STATES; undone++) {
            askAll(run, undone, answers);
        }
        return answers;
    }

    private static void askAll(Run run, int undone, List<Integer> answers) {
        for (int start = 0; start < QUESTIONS.size(); start += QUESTIONS_EACH) {
            SummedParents tree = new SummedParents();
            run.on(tree);
            for (int time = 0; time < undone; time++) {
                answers.add(tree.undo());
            }
            int end = Math.min(start + QUESTIONS_EACH, QUESTIONS.size());
            for (Call question : QUESTIONS.subList(start, end)) {
                answers.add(question.on(tree));
            }
        }
        SummedParents tree = new SummedParents();
        run.on(tree);
        for (int time = 0; time < undone; time++) {
            tree.undo();
        }
        // Of the text there is more to see by the writes that it does.
        answers.add(tree.play());
        for (int leaf = 0; leaf < 16; leaf++) {
            for (int place = 0; place < 4; place++) {
                answers.add(tree.read(0, leaf, place));
            }
        }
    }

    private static List<Call> questions() {
        List<Call> questions = new ArrayList<>();
        for (int what = 0; what < 8; what++) {
            int asked = what;
            questions.add(tree -> tree.count(asked));
        }
        for (int what = 0; what < 3; what++) {
            int asked = what;
            questions.add(tree -> tree.fault(asked));
        }
        for (int index = 0; index < 8; index++) {
            int root = index;
            for (int what = 0; what < 5; what++) {
                int asked = what;
                questions.add(tree -> tree.rootOf(root, asked));
                questions.add(tree -> tree.leaves(root, asked));
            }
            questions.add(tree -> tree.unlike(0, root));
        }
        for (int number = 0; number < 96 * 2 * 4; number++) {
            int block = number / 8;
            int copy = number / 4 % 2;
            int place = number % 4;
            questions.add(tree -> tree.content(block, copy, place));
        }
        return questions;
    }
}
