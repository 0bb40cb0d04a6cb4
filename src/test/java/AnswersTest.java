import java.util.List;
import java.util.function.ToLongFunction;

/** The paragraph 'Answers' and the constants: each refused call, which refusal comes first, what changes nothing. */
public final class AnswersTest {
    private static final Due due = new Due("AnswersTest");
    private static final int MIN = Integer.MIN_VALUE, MAX = Integer.MAX_VALUE;
    private static final int FAR_NONE = -1000001, FAR_BAD = -1000002;
    private static final Twins NOBODY = new Twins(due, "nobody", x -> { });
    private static final Twins THREE = new Twins(due, "three", AnswersTest::three);
    private static final Twins FOUR = new Twins(due, "four", AnswersTest::four);
    private static final Twins FULL = new Twins(due, "full", AnswersTest::full);

    public static void main(String[] args) {
        constants();
        pastsAreAsMeant();
        nobodyThere();
        noneOfEaters();
        badNumbers();
        states();
        full();
        tapesRefused();
        firstOfTwo();
        changes();
        asked(NOBODY);
        asked(THREE);
        asked(FULL);
        asked(FOUR);
        oneAfterAnother();
        due.end();
    }

    /** A TOLD one and two more, two suppers, a text begun; no house, no image. */
    private static void three(AteLeast x) {
        x.eater(6, 1, 2);
        x.eater(4, 2, 3);
        x.eater(2, 0, 5);
        x.row(0, 2, 7);
        x.supper();
        x.supper();
        x.act(1, 1, 4);
        x.book(x.run(1, 0));
        x.tape(0, 2, 3);
        x.item(0, 1, 5);
        x.feed('l');
    }

    /** One less than may be: two BEST ones, by a HOUSE whose law and COST they weigh. */
    private static void four(AteLeast x) {
        Due.house(x, "worth 5 a<4;worth 2 b>1;bake 9 d<3;bake 4 k=4;law 1;scale 2");
        x.eater(4, 2, 3);
        x.eater(6, 0, 1);
        x.eater(4, 0, 5);
        x.eater(1, 3, 2);
        x.row(1, 1, 4);
        x.supper();
        x.bin(99);
    }

    /** All that may be full is: some 280 calls. */
    private static void full(AteLeast x) {
        for (int k = 0; k < 5; k++) {
            Due.house(x, "law 2");
        }
        Due.house(x, "worth 4 a<5;bake 9 b>1;loaf 12");
        int[] kinds = {6, 4, 2, 3, 5};
        for (int e = 0; e < 5; e++) {
            x.eater(kinds[e], 5, e + 2);
        }
        for (int part = 0; part < 4; part++) {
            x.row(0, part, part + 3);
        }
        x.supper();
        x.image();
        x.hunger(3, 8);
        x.row(0, 3, 9);
        x.supper();
        for (int k = 1; k <= 12; k++) {
            x.book(x.run(k, 0));
        }
        for (int tape = 0; tape < 5; tape++) {
            x.tape(tape, tape, 60);
            x.item(tape, 1, 5);
            x.item(tape, 59, 9);
        }
        x.act(0, 2, 3);
        for (int k = 0; k < 100; k++) {
            x.feed("law 1;loaf".charAt(k % 10));
        }
    }

    private static void constants() {
        due.is("NONE", AteLeast.NONE, -1);
        due.is("BAD", AteLeast.BAD, -2);
        due.is("STATE", AteLeast.STATE, -3);
        due.is("FULL", AteLeast.FULL, -4);
        due.is("NO", AteLeast.NO, Long.MIN_VALUE);
    }

    private static void pastsAreAsMeant() {
        AteLeast x = new AteLeast();
        full(x);
        int[] counts = {5, 6, 12, 100, 12};
        for (int what = 0; what < 5; what++) {
            due.is("full: count(" + what + ")", x.count(what), counts[what]);
        }
        due.is("full: the book is true", x.looked(), -5);
        AteLeast y = new AteLeast();
        three(y);
        due.is("three", y.count(0), 3);
        due.is("three: the book is true", y.looked(), -5);
    }

    private static void refuse(String call, ToLongFunction<AteLeast> of, long want) {
        NOBODY.refuse(call, of, want);
        THREE.refuse(call, of, want);
        FULL.refuse(call, of, want);
    }

    /** Where nobody is there, the number 0 is no EATER's. */
    private static void nobodyThere() {
        NOBODY.refuse("of(0, 0)", x -> x.of(0, 0), FAR_NONE);
        NOBODY.refuse("hunger(0, 0)", x -> x.hunger(0, 0), -1);
        NOBODY.refuse("row(0, 0, 0)", x -> x.row(0, 0, 0), -1);
        NOBODY.refuse("supper()", x -> x.supper(), -5);
        NOBODY.refuse("run(0, 10)", x -> x.run(0, 10), FAR_NONE);
        NOBODY.refuse("run(0, 20)", x -> x.run(0, 20), FAR_NONE);
        NOBODY.refuse("still(10)", x -> x.still(10), FAR_NONE);
        NOBODY.refuse("allBest(10)", x -> x.allBest(10), FAR_NONE);
        NOBODY.refuse("cook(0, 0)", x -> x.cook(0, 0), FAR_NONE);
        NOBODY.refuse("pact(0, 0, 0)", x -> x.pact(0, 0, 0), FAR_NONE);
        NOBODY.refuse("odds(0, 0)", x -> x.odds(0, 0), AteLeast.NO);
        NOBODY.refuse("mean(1, 0)", x -> x.mean(1, 0), AteLeast.NO);
        NOBODY.refuse("mean(60, 1)", x -> x.mean(60, 1), AteLeast.NO);
        NOBODY.refuse("taken(0, 0)", x -> x.taken(0, 0), -11);
        NOBODY.refuse("undo()", x -> x.undo(), -3);
        NOBODY.refuse("trace(0)", x -> x.trace(0), -1);
        NOBODY.refuse("act(0, 0, 1)", x -> x.act(0, 0, 1), 0);
    }

    /** One below 0, the one behind the last, far off. */
    private static void noneOfEaters() {
        int[] ofThree = {-1, 3, 4, 5, MIN, MAX};
        for (int e : ofThree) {
            noEater(THREE, e);
            THREE.refuse("pact(" + e + ", 0, 1)", x -> x.pact(e, 0, 1), FAR_NONE);
            THREE.refuse("pact(0, " + e + ", 1)", x -> x.pact(0, e, 1), FAR_NONE);
        }
        int[] ofFive = {-1, 5, MIN, MAX};
        for (int e : ofFive) {
            noEater(FULL, e);
            FULL.refuse("pact(" + e + ", 4, 1)", x -> x.pact(e, 4, 1), FAR_NONE);
            FULL.refuse("pact(4, " + e + ", 1)", x -> x.pact(4, e, 1), FAR_NONE);
        }
    }

    private static void noEater(Twins at, int e) {
        at.refuse("of(" + e + ", 5)", x -> x.of(e, 5), FAR_NONE);
        at.refuse("hunger(" + e + ", 3)", x -> x.hunger(e, 3), -1);
        at.refuse("row(" + e + ", 0, 3)", x -> x.row(e, 0, 3), -1);
        at.refuse("run(1, 10 and " + e + ")", x -> x.run(1, 10 + e), FAR_NONE);
        at.refuse("run(1, 20 and " + e + ")", x -> x.run(1, 20 + e), FAR_NONE);
        at.refuse("still(10 and " + e + ")", x -> x.still(10 + e), FAR_NONE);
        at.refuse("allBest(10 and " + e + ")", x -> x.allBest(10 + e), FAR_NONE);
        at.refuse("cook(" + e + ", 1)", x -> x.cook(e, 1), FAR_NONE);
        at.refuse("odds(" + e + ", 0)", x -> x.odds(e, 0), AteLeast.NO);
        at.refuse("odds(" + e + ", 1)", x -> x.odds(e, 1), AteLeast.NO);
        at.refuse("taken(" + e + ", 0)", x -> x.taken(e, 0), -11);
    }

    /** Numbers just outside of what a call names, and far off. */
    private static void badNumbers() {
        for (int n : new int[] {-1, 7, MIN, MAX}) {
            refuse("eater(" + n + ", 0, 0)", x -> x.eater(n, 0, 0), -1);
            THREE.refuse("taken(0, " + n + ")", x -> x.taken(0, n), -2);
        }
        for (int n : new int[] {-1, 10, MIN, MAX}) {
            refuse("eater(0, " + n + ", 0)", x -> x.eater(0, n, 0), -2);
            refuse("eater(0, 0, " + n + ")", x -> x.eater(0, 0, n), -2);
            refuse("guest(" + n + ")", x -> x.guest(n), -2);
            THREE.refuse("hunger(2, " + n + ")", x -> x.hunger(2, n), -2);
            THREE.refuse("row(0, 3, " + n + ")", x -> x.row(0, 3, n), -2);
        }
        for (int n : new int[] {-1, 4, MIN, MAX}) {
            THREE.refuse("row(0, " + n + ", 5)", x -> x.row(0, n, 5), -1);
        }
        for (int n : new int[] {-1, 100, MIN, MAX}) {
            refuse("bin(" + n + ")", x -> x.bin(n), -2);
            refuse("book(" + (n == -1 ? -2 : n) + ")", x -> x.book(n == -1 ? -2 : n), -2);
        }
        for (int n : new int[] {-1, 128, MIN, MAX}) {
            refuse("feed(" + n + ")", x -> x.feed(n), -2);
        }
        for (int n : new int[] {-1, 6, MIN, MAX}) {
            refuse("told(" + n + ")", x -> x.told(n), -1);
        }
        for (int n : new int[] {-1, 5, MIN, MAX}) {
            refuse("count(" + n + ")", x -> x.count(n), -2);
        }
        badSuppers();
        badWhats();
    }

    private static void badSuppers() {
        for (int n : new int[] {-1, 61, MIN, MAX}) {
            refuse("run(" + n + ", 0)", x -> x.run(n, 0), FAR_BAD);
            refuse("run(" + n + ", 1)", x -> x.run(n, 1), FAR_BAD);
            refuse("laws(" + n + ")", x -> x.laws(n), -2);
            THREE.refuse("run(" + n + ", 12)", x -> x.run(n, 12), FAR_BAD);
            THREE.refuse("run(" + n + ", 22)", x -> x.run(n, 22), FAR_BAD);
            THREE.refuse("cook(0, " + n + ")", x -> x.cook(0, n), FAR_BAD);
            THREE.refuse("pact(0, 1, " + n + ")", x -> x.pact(0, 1, n), FAR_BAD);
        }
        for (int n : new int[] {-1, 0, 61, MIN, MAX}) {
            refuse("mean(" + n + ", 0)", x -> x.mean(n, 0), AteLeast.NO);
            refuse("mean(" + n + ", 1)", x -> x.mean(n, 1), AteLeast.NO);
        }
        for (int n : new int[] {-1, 9, 60, MIN, MAX}) {
            refuse("thin(" + n + ")", x -> x.thin(n), -2);
        }
        THREE.refuse("pact(1, 1, 5)", x -> x.pact(1, 1, 5), FAR_BAD);
    }

    private static void badWhats() {
        for (int what : new int[] {-1, 7, 8, 9, 10, 20, MIN, MAX}) {
            THREE.refuse("of(0, " + what + ")", x -> x.of(0, what), FAR_NONE);
        }
        for (int what : new int[] {-1, 2, 9, 13, 19, 23, 30, MIN, MIN + 9, MIN + 19, MAX}) {
            THREE.refuse("run(1, " + what + ")", x -> x.run(1, what), FAR_NONE);
        }
        for (int what : new int[] {-1, 1, 9, 13, 20, MIN, MIN + 9, MAX}) {
            THREE.refuse("still(" + what + ")", x -> x.still(what), FAR_NONE);
            THREE.refuse("allBest(" + what + ")", x -> x.allBest(what), FAR_NONE);
        }
        for (int part : new int[] {-1, 2, MIN, MAX}) {
            THREE.refuse("odds(0, " + part + ")", x -> x.odds(0, part), AteLeast.NO);
            THREE.refuse("mean(1, " + part + ")", x -> x.mean(1, part), AteLeast.NO);
        }
        for (int i : new int[] {-1, 4, 5, 19, 20, MIN, MAX}) {
            // BEST bakes by five bodies; 4 is the last one's place
            THREE.refuse("trace(" + i + ")", x -> x.trace(i), i == 4 ? 10 : -1);
        }
    }

    private static void states() {
        THREE.refuse("undo()", x -> x.undo(), -3);
        THREE.refuse("row(1, 0, 4)", x -> x.row(1, 0, 4), -3);
        THREE.refuse("row(2, 3, 4)", x -> x.row(2, 3, 4), -3);
        FULL.refuse("row(3, 0, 4)", x -> x.row(3, 0, 4), -3);
        FULL.refuse("row(4, 3, 4)", x -> x.row(4, 3, 4), -3);
        FULL.refuse("guest(0)", x -> x.guest(0), -3);
        FULL.refuse("guest(9)", x -> x.guest(9), -3);
        FULL.refuse("still(0)", x -> x.still(0), -9);
        FULL.refuse("still(14)", x -> x.still(14), -9);
        FULL.refuse("allBest(0)", x -> x.allBest(0), -9);
        FULL.refuse("allBest(14)", x -> x.allBest(14), -9);
    }

    private static void full() {
        FULL.refuse("eater(6, 9, 9)", x -> x.eater(6, 9, 9), -4);
        FULL.refuse("eater(0, 0, 0)", x -> x.eater(0, 0, 0), -4);
        FULL.refuse("feed(0)", x -> x.feed(0), -4);
        FULL.refuse("feed(127)", x -> x.feed(127), -4);
        FULL.refuse("house()", x -> x.house(), -4);
        FULL.refuse("book(0)", x -> x.book(0), -4);
        FULL.refuse("book(99)", x -> x.book(99), -4);
    }

    private static void tapesRefused() {
        for (int t : new int[] {-1, 6, MIN, MAX}) {
            refuse("judge(" + t + ", 0)", x -> x.judge(t, 0), -1);
            refuse("tape(" + t + ", 0, 1)", x -> x.tape(t, 0, 1), -1);
            refuse("item(" + t + ", 0, 1)", x -> x.item(t, 0, 1), -1);
            refuse("read(" + t + ", 0)", x -> x.read(t, 0), AteLeast.NO);
            refuse("shift(" + t + ", 0, 0, 0, 1)", x -> x.shift(t, 0, 0, 0, 1), -1);
            refuse("shift(0, 0, " + t + ", 0, 1)", x -> x.shift(0, 0, t, 0, 1), -1);
        }
        for (int sort : new int[] {-2, 5, MIN, MAX}) {
            refuse("tape(0, " + sort + ", 1)", x -> x.tape(0, sort, 1), -2);
        }
        for (int n : new int[] {61, MAX}) {
            refuse("tape(0, 2, " + n + ")", x -> x.tape(0, 2, n), -2);
        }
        for (int n : new int[] {-1, MIN}) {
            refuse("tape(0, 2, " + n + ")", x -> x.tape(0, 2, n), -14);
        }
        refuse("item(5, 0, 7)", x -> x.item(5, 0, 7), -11);
        refuse("read(5, 0)", x -> x.read(5, 0), AteLeast.NO);
        refuse("shift(5, 0, 0, 0, 0)", x -> x.shift(5, 0, 0, 0, 0), -11);
        refuse("shift(0, 0, 5, 0, 0)", x -> x.shift(0, 0, 5, 0, 0), -11);
        for (int i : new int[] {-1, 60, MIN, MAX}) {
            FULL.refuse("item(3, " + i + ", 7)", x -> x.item(3, i, 7), -13);
            FULL.refuse("read(3, " + i + ")", x -> x.read(3, i), AteLeast.NO);
            FULL.refuse("shift(3, " + i + ", 3, 0, 1)", x -> x.shift(3, i, 3, 0, 1), -13);
            FULL.refuse("shift(3, 0, 3, " + i + ", 1)", x -> x.shift(3, 0, 3, i, 1), -13);
        }
        for (int n : new int[] {-1, 61, MIN, MAX}) {
            FULL.refuse("shift(3, 0, 3, 0, " + n + ")", x -> x.shift(3, 0, 3, 0, n), -13);
        }
        for (int sort : new int[] {0, 1, 3, 4}) {
            FULL.refuse("judge(" + sort + ", 0)", x -> x.judge(sort, 0), -12);
            FULL.refuse("shift(" + sort + ", 0, 2, 0, 1)", x -> x.shift(sort, 0, 2, 0, 1), -12);
            FULL.refuse("shift(2, 0, " + sort + ", 0, 1)", x -> x.shift(2, 0, sort, 0, 1), -12);
        }
        for (int k : new int[] {1, 2, 3, 5}) {
            // the one who is told is of KIND 6, under 3 and 0
            FULL.refuse("taken(0, " + k + ")", x -> x.taken(0, k), k == 3 ? 6 : -12);
        }
    }

    /** Of two refusals the one that the call's words name first. */
    private static void firstOfTwo() {
        refuse("eater: NONE, then BAD", x -> x.eater(7, 10, 10), -1);
        FULL.refuse("eater: NONE, then FULL", x -> x.eater(7, 0, 0), -1);
        FULL.refuse("eater: BAD v, then FULL", x -> x.eater(0, 10, 0), -2);
        FULL.refuse("eater: BAD hunger, then FULL", x -> x.eater(0, 0, 10), -2);
        refuse("hunger: NONE, then BAD", x -> x.hunger(5, 10), -1);
        refuse("row: NONE eater, then BAD", x -> x.row(5, 0, 10), -1);
        refuse("row: NONE part, then BAD", x -> x.row(0, 4, 10), -1);
        THREE.refuse("row: NONE part, then STATE", x -> x.row(1, 4, 0), -1);
        THREE.refuse("row: BAD, then STATE", x -> x.row(1, 0, 10), -2);
        FULL.refuse("feed: BAD, then FULL", x -> x.feed(128), -2);
        FULL.refuse("book: BAD, then FULL", x -> x.book(100), -2);
        refuse("run: NONE, then BAD", x -> x.run(61, 2), FAR_NONE);
        NOBODY.refuse("run: NONE eater, then BAD", x -> x.run(61, 10), FAR_NONE);
        FULL.refuse("still: NONE, then -9", x -> x.still(15), FAR_NONE);
        FULL.refuse("still: NONE, then -9", x -> x.still(1), FAR_NONE);
        FULL.refuse("allBest: NONE, then -9", x -> x.allBest(15), FAR_NONE);
        FULL.refuse("allBest: NONE, then -9", x -> x.allBest(9), FAR_NONE);
        refuse("cook: NONE, then BAD", x -> x.cook(5, 61), FAR_NONE);
        refuse("pact: NONE, then BAD n", x -> x.pact(0, 5, 61), FAR_NONE);
        refuse("pact: NONE, then BAD one", x -> x.pact(5, 5, 1), FAR_NONE);
        FULL.refuse("guest: BAD, then STATE", x -> x.guest(10), -2);
        refuse("judge: NONE, whatever the place", x -> x.judge(6, -1), -1);
        FULL.refuse("judge: CAST, whatever the place", x -> x.judge(1, -1), -12);
        refuse("taken: BAD, then NOTHING", x -> x.taken(5, 7), -2);
        FULL.refuse("taken: BAD, then CAST", x -> x.taken(0, -1), -2);
        refuse("tape: NONE, then BAD", x -> x.tape(6, 5, 1), -1);
        refuse("tape: NONE, then SIZE", x -> x.tape(6, 0, -1), -1);
        refuse("tape: BAD sort, then SIZE", x -> x.tape(0, 5, -1), -2);
        refuse("item: NONE, then NOTHING", x -> x.item(-1, 0, 1), -1);
        refuse("item: NOTHING, then PLACE", x -> x.item(5, -1, 1), -11);
        refuse("shift: NONE, then NOTHING", x -> x.shift(5, 0, 6, 0, 1), -1);
        refuse("shift: NOTHING, then CAST", x -> x.shift(5, 0, 0, 0, 1), -11);
        refuse("shift: NOTHING, then PLACE", x -> x.shift(5, -1, 5, 0, 1), -11);
        FULL.refuse("shift: CAST, then PLACE", x -> x.shift(0, -1, 1, 0, 1), -12);
    }

    /** Else nothing of the above would be told: calls that do change show that they do. */
    private static void changes() {
        THREE.change("eater", x -> x.eater(0, 0, 0), 3);
        THREE.change("hunger", x -> x.hunger(2, 9), 5);
        THREE.change("row", x -> x.row(0, 3, 9), 0);
        THREE.change("bin", x -> x.bin(99), breadOfThree());
        THREE.change("feed", x -> x.feed('a'), 2);
        THREE.change("house, whose text is gone", x -> x.house(), -11);
        FULL.change("supper", x -> x.supper(), lastBaker());
        THREE.change("book", x -> x.book(0), 2);
        THREE.change("book, emptied", x -> x.book(-1), 0);
        THREE.change("image", x -> x.image(), 3);
        FULL.change("undo", x -> x.undo(), 5);
        THREE.change("act", x -> x.act(2, 0, 1), 5);
        THREE.change("act of nobody: no trace then", x -> x.act(3, 0, 1), 0);
        THREE.change("no such act: no trace then", x -> x.act(0, 3, 1), 0);
        THREE.change("no such act: no trace then", x -> x.act(0, -1, 1), 0);
        THREE.change("tape", x -> x.tape(0, 2, 4), 1);
        THREE.change("tape, nothing held", x -> x.tape(0, -1, 4), 1);
        THREE.change("item", x -> x.item(0, 2, 1), 1);
        THREE.change("shift", x -> x.shift(0, 1, 0, 0, 1), 1);
    }

    private static int breadOfThree() {
        AteLeast x = new AteLeast();
        three(x);
        return x.told(3);
    }

    private static int lastBaker() {
        AteLeast x = new AteLeast();
        full(x);
        return x.run(1, 1);
    }

    /** What is asked changes nothing, and answers the same again. */
    private static void asked(Twins at) {
        for (int what : new int[] {0, 5, 6, 11, 19}) {
            at.ask("of(1, " + what + ")", x -> x.of(1, what));
        }
        at.ask("told", x -> x.told(3));
        for (int what : new int[] {0, 1, 10, 20}) {
            at.ask("run(0, " + what + ")", x -> x.run(0, what));
            at.ask("run(60, " + what + ")", x -> x.run(60, what));
        }
        at.ask("round", x -> x.round());
        at.ask("still(0)", x -> x.still(0));
        at.ask("still(11)", x -> x.still(11));
        at.ask("allBest(0)", x -> x.allBest(0));
        at.ask("allBest(11)", x -> x.allBest(11));
        at.ask("laws(0)", x -> x.laws(0));
        at.ask("laws(60)", x -> x.laws(60));
        at.ask("cook", x -> x.cook(2, 60));
        at.ask("thin(0)", x -> x.thin(0));
        at.ask("thin(8)", x -> x.thin(8));
        at.ask("pact", x -> x.pact(2, 0, 60));
        at.ask("guest", x -> x.guest(0));
        at.ask("odds", x -> x.odds(1, 1));
        at.ask("mean", x -> x.mean(60, 0));
        at.ask("looked", x -> x.looked());
        at.ask("judge", x -> x.judge(2, 0));
        at.ask("trace", x -> x.trace(0));
        at.ask("taken", x -> x.taken(1, 1));
        at.ask("count", x -> x.count(3));
        at.ask("read", x -> x.read(0, 1));
    }

    /** What was asked ahead of a question does not change its answer, in whatever order. */
    private static void oneAfterAnother() {
        List<ToLongFunction<AteLeast>> questions = List.of(
            x -> x.guest(9), x -> x.allBest(0), x -> x.still(0), x -> x.run(60, 0), x -> x.run(7, 23), x -> x.laws(9),
            x -> x.cook(2, 9), x -> x.thin(8), x -> x.pact(0, 3, 9), x -> x.guest(0), x -> x.odds(0, 1),
            x -> x.mean(9, 0), x -> x.looked(), x -> x.round(), x -> x.of(0, 5), x -> x.of(2, 6), x -> x.of(3, 13),
            x -> x.allBest(13), x -> x.still(10), x -> x.told(5));
        AteLeast on = new AteLeast();
        AteLeast back = new AteLeast();
        four(on);
        four(back);
        for (int k = 0; k < questions.size(); k++) {
            due.is("question " + k + " behind those ahead", questions.get(k).applyAsLong(on), alone(questions.get(k)));
        }
        for (int k = questions.size() - 1; k >= 0; k--) {
            due.is("question " + k + " behind those behind", questions.get(k).applyAsLong(back), alone(questions.get(k)));
        }
    }

    private static long alone(ToLongFunction<AteLeast> question) {
        AteLeast x = new AteLeast();
        four(x);
        return question.applyAsLong(x);
    }
}
