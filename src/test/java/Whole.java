import java.util.ArrayList;
import java.util.List;
import java.util.function.Supplier;

/** All that an object holds, told by its answers. They use it up, so that it is made once for each way of asking. */
final class Whole {
    private final ChunkView x;
    private final List<Long> answers;

    private Whole(ChunkView x, List<Long> answers) {
        this.x = x;
        this.answers = answers;
    }

    /** Two ways to make an object that end with the same held have the same list. */
    static List<Long> of(Supplier<ChunkView> made) {
        List<Long> answers = new ArrayList<>();
        new Whole(made.get(), answers).tellsTape();
        new Whole(made.get(), answers).tellsStaged();
        new Whole(made.get(), answers).tellsKnown();
        new Whole(made.get(), answers).tellsImages();
        return answers;
    }

    private void adds(long answer) {
        answers.add(answer);
    }

    // The digest tells bytes, chunks and marks.
    private void tellsNow() {
        for (int what = 0; what < 12; what++) {
            adds(x.count(what));
        }
        adds(x.digest());
    }

    private void tellsTape() {
        tellsNow();
        adds(x.drops());
        adds(x.edits(0, Math.min(24, x.count(0))));
        tellsNow();
    }

    private void tellsStaged() {
        adds(x.does());
        tellsNow();
    }

    private void tellsKnown() {
        adds(x.drops());
        for (int i = 0; i < 9; i++) {
            adds(x.undo());
            tellsNow();
        }
    }

    private void tellsImages() {
        for (int image = 0; image < 2; image++) {
            adds(x.back(image));
            tellsNow();
        }
    }
}
