import java.util.ArrayList;
import java.util.List;
import java.util.function.Consumer;
import java.util.function.ToLongFunction;

/** Two objects of one past: what only one of them is asked, or refused, must leave it like the other. */
final class Twins {
    private final Due due;
    private final String past;
    private final Consumer<AteLeast> lives;

    Twins(Due due, String past, Consumer<AteLeast> lives) {
        this.due = due;
        this.past = past;
        this.lives = lives;
    }

    /** The call answers so, and nothing changes. */
    void refuse(String call, ToLongFunction<AteLeast> of, long want) {
        AteLeast x = born();
        due.is(past + ": " + call, of.applyAsLong(x), want);
        due.is(past + ": " + call + " changes nothing, unlike at", firstUnlike(x, born()), -1);
    }

    /** The call answers twice alike, and nothing changes. */
    void ask(String call, ToLongFunction<AteLeast> of) {
        AteLeast x = born();
        long answer = of.applyAsLong(x);
        due.is(past + ": " + call + " again", of.applyAsLong(x), answer);
        due.is(past + ": " + call + " changes nothing, unlike at", firstUnlike(x, born()), -1);
    }

    /** The call is no mere question: what all() gathers shows what it does. */
    void change(String call, ToLongFunction<AteLeast> of, long want) {
        AteLeast x = born();
        due.is(past + ": " + call, of.applyAsLong(x), want);
        due.is(past + ": " + call + " changes something", firstUnlike(x, born()) >= 0 ? 1 : 0, 1);
    }

    private AteLeast born() {
        AteLeast x = new AteLeast();
        lives.accept(x);
        return x;
    }

    private static int firstUnlike(AteLeast x, AteLeast y) {
        List<Long> ofX = all(x);
        List<Long> ofY = all(y);
        for (int k = 0; k < Math.max(ofX.size(), ofY.size()); k++) {
            if (k >= ofX.size() || k >= ofY.size() || !ofX.get(k).equals(ofY.get(k))) {
                return k;
            }
        }
        return -1;
    }

    /** All that shows, some 200 calls; in the end by calls that change it, as nobody needs x again. */
    private static List<Long> all(AteLeast x) {
        List<Long> all = new ArrayList<>();
        table(x, all);
        for (int what = 0; what <= 4; what++) {
            all.add((long) x.count(what));
        }
        for (int k = 0; k < 13; k++) {
            all.add((long) x.trace(k));
        }
        for (int tape = 0; tape < 6; tape++) {
            all.add((long) x.shift(tape, 0, tape, 0, 0));
            for (int k : new int[] {0, 1, 2, 3, 59}) {
                all.add(x.read(tape, k));
            }
            all.add((long) x.judge(tape, 0));
        }
        all.add((long) x.run(9, 0));
        all.add((long) x.run(9, 10));
        all.add((long) x.house());
        all.add((long) x.told(0));
        all.add((long) x.undo());
        table(x, all);
        return all;
    }

    private static void table(AteLeast x, List<Long> all) {
        for (int what = 0; what <= 5; what++) {
            all.add((long) x.told(what));
        }
        for (int e = 0; e < x.count(0); e++) {
            for (int what = 0; what <= 6; what++) {
                all.add((long) x.of(e, what));
            }
        }
        all.add((long) x.looked());
        all.add((long) x.count(2));
        for (int k = 0; k < 20; k++) {
            all.add((long) x.row(k / 4, k % 4, 0));
        }
    }
}
