/** Promises 1 to 6: a new object, eaters, what is told of them, hunger, rows, the bin. */
public final class EatersTest {
    private static final Due due = new Due("EatersTest");
    private static final int FAR_NONE = -1000001;

    public static void main(String[] args) {
        newObject();
        eater();
        of();
        wishes();
        bestWishes();
        worthAndCost();
        hunger();
        row();
        bin();
        due.end();
    }

    private static void newObject() {
        AteLeast x = new AteLeast();
        int[] told = {8, 0, 1, 20, 0, -5};
        for (int what = 0; what < 6; what++) {
            due.is("told(" + what + ")", x.told(what), told[what]);
        }
        for (int what = 0; what < 5; what++) {
            due.is("count(" + what + ")", x.count(what), 0);
        }
        for (int tape = 0; tape < 6; tape++) {
            due.is("read new", x.read(tape, 0), AteLeast.NO);
        }
        due.is("of nobody", x.of(0, 0), FAR_NONE);
        due.is("undo new", x.undo(), -3);
        due.is("trace new", x.trace(0), -1);
        due.is("looked new", x.looked(), -5);
        due.is("NONE", AteLeast.NONE, -1);
        due.is("BAD", AteLeast.BAD, -2);
        due.is("STATE", AteLeast.STATE, -3);
        due.is("FULL", AteLeast.FULL, -4);
        due.is("NO", AteLeast.NO, Long.MIN_VALUE);
    }

    private static void eater() {
        AteLeast x = new AteLeast();
        due.is("kind -1", x.eater(-1, 0, 0), -1);
        due.is("kind 7", x.eater(7, 0, 0), -1);
        due.is("kind ahead of v", x.eater(7, 10, 10), -1);
        due.is("v -1", x.eater(0, -1, 0), -2);
        due.is("v 10", x.eater(0, 10, 0), -2);
        due.is("hunger -1", x.eater(0, 0, -1), -2);
        due.is("hunger 10", x.eater(0, 0, 10), -2);
        due.is("none came", x.count(0), 0);
        for (int e = 0; e < 5; e++) {
            due.is("eater " + e, x.eater(e + 2, 9 - e, e), e);
        }
        due.is("sixth", x.eater(0, 0, 0), -4);
        due.is("kind ahead of FULL", x.eater(9, 0, 0), -1);
        due.is("v ahead of FULL", x.eater(0, 11, 0), -2);
        due.is("five", x.count(0), 5);
        for (int e = 0; e < 5; e++) {
            due.is("kind", x.of(e, 0), e + 2 > 6 ? 0 : e + 2);
            due.is("v", x.of(e, 1), 9 - e);
            due.is("hunger", x.of(e, 2), e);
        }
    }

    private static void of() {
        AteLeast x = Due.table("", Due.e(1, 2, 3), Due.e(0, 9, 4));
        x.supper();
        int[] zero = {1, 2, 3, 5, 5, 5, 5};
        int[] one = {0, 9, 4, 4, -1, 4, 5};
        for (int what = 0; what < 7; what++) {
            due.is("of(0, " + what + ")", x.of(0, what), zero[what]);
            due.is("of(1, " + what + ")", x.of(1, what), one[what]);
        }
        int[] bad = {-1, 7, 8, 9, 10, 20, 21, Integer.MIN_VALUE, Integer.MAX_VALUE};
        for (int what : bad) {
            due.is("of(0, " + what + ")", x.of(0, what), FAR_NONE);
        }
        due.is("of(-1, 0)", x.of(-1, 0), FAR_NONE);
        due.is("of(2, 0)", x.of(2, 0), FAR_NONE);
        due.is("of(2, 11)", x.of(2, 11), FAR_NONE);
    }

    private static void wishes() {
        // Each kind on day 0: nobody has eaten yet, so who sees another wishes 1.
        AteLeast x = Due.table("", Due.e(3, 0, 6), Due.e(2, 0, 9), Due.e(5, 4, 9), Due.e(5, 5, 9), Due.e(6, 0, 9));
        int[] first = {0, 1, 0, 1, 0};
        wish("day 0", x, first);
        for (int part = 0; part < 4; part++) {
            x.row(4, part, 6 + part);
        }
        due.is("row by day 0", x.of(4, 5), 6);
        x.supper();
        // Eaten: 0, 1, 0, 1, 6; it is day 1.
        wish("day 1", x, new int[] {6, 1, 0, 1, 7});
        x.supper();
        // Eaten: 6, 1, 0, 1, 7; it is day 2.
        wish("day 2", x, new int[] {6, 7, 0, 1, 8});
        due.is("day 2", x.told(4), 2);
        x.bin(99);
        x.supper();
        wish("day 3", x, new int[] {6, 7, 0, 1, 9});
        x.bin(99);
        x.supper();
        wish("day 4", x, new int[] {6, 7, 0, 1, 6});
        x.bin(99);
        x.supper();
        wish("day 5", x, new int[] {0, 7, 0, 1, 7});

        AteLeast y = Due.table("", Due.e(2, 0, 0), Due.e(1, 9, 9), Due.e(1, 3, 5));
        due.is("hunger and v, 9 at most", y.of(1, 5), 9);
        due.is("hunger and v", y.of(2, 5), 8);
        y.bin(99);
        y.supper();
        due.is("0 sees the last one", y.of(0, 5), 9);
        AteLeast z = Due.table("", Due.e(1, 9, 9), Due.e(2, 0, 0), Due.e(5, 9, 0));
        z.bin(99);
        z.supper();
        due.is("a crumb more than 9 is 9", z.of(1, 5), 9);
        due.is("Martha sees 1", z.of(2, 5), 2);
        AteLeast alone = Due.table("", Due.e(2, 0, 0));
        Due.suppers(alone, 3);
        due.is("alone it sees itself", alone.of(0, 5), 4);
        AteLeast turn = Due.table("", Due.e(3, 0, 7), Due.e(3, 0, 8));
        wish("turn, day 0", turn, new int[] {0, 8});
        turn.supper();
        wish("turn, day 1", turn, new int[] {7, 0});
        turn.eater(0, 0, 0);
        wish("turn of three, day 1", turn, new int[] {7, 0, 0});
    }

    private static void wish(String when, AteLeast x, int[] wants) {
        for (int e = 0; e < wants.length; e++) {
            due.is("wish of " + e + ", " + when, x.of(e, 5), wants[e]);
        }
    }

    private static void bestWishes() {
        AteLeast x = Due.table("", Due.e(4, 0, 0), Due.e(0, 0, 4));
        due.is("most bread", x.of(0, 5), 9);
        x.bin(3);
        due.is("of several the least", x.of(0, 5), 3);
        x.bin(0);
        due.is("no bread", x.of(0, 5), 0);
        // Slices past the second are worth nothing; who eats 2 beside 2 bakes by the least number.
        AteLeast y = Due.table("worth 5 a<3;bake 9 i<9", Due.e(4, 0, 0), Due.e(0, 0, 2));
        due.is("a third slice spares it baking", y.of(0, 5), 3);
        y.hunger(1, 9);
        due.is("baking anyhow", y.of(0, 5), 2);
        y.hunger(1, 1);
        due.is("two slices are enough", y.of(0, 5), 2);
        // The other BEST one is thought of as hungry: 3 and 2.
        AteLeast z = Due.table("worth 5 a<3;bake 9 i<9", Due.e(4, 0, 0), Due.e(4, 2, 3));
        due.is("more than a hungry one", z.of(0, 5), 6);
        due.is("more than none", z.of(1, 5), 2);
        // Whoever eats most bakes: a first slice is less than what baking costs.
        AteLeast most = Due.table("law 1;worth 3 i<9;bake 7 i<9", Due.e(0, 0, 2), Due.e(4, 0, 0));
        due.is("as much as the other, who bakes", most.of(1, 5), 9);
        most = Due.table("law 1;worth 1 i<9;bake 9 i<9", Due.e(0, 0, 2), Due.e(4, 0, 0));
        due.is("no more than the other", most.of(1, 5), 2);
        // Cost by what is eaten: baking costs nothing behind four slices.
        AteLeast cheap = Due.table("worth 1 i<9;bake 9 a<4|a>4", Due.e(4, 0, 0), Due.e(0, 0, 9));
        due.is("cheap baking", cheap.of(0, 5), 4);
    }

    private static void worthAndCost() {
        AteLeast x = Due.table("worth 9 a<3;worth 4 a<6&i=0;bake 11 k=1;bake 3 a=5|a=0;bake 7 h>4",
            Due.e(0, 0, 5), Due.e(1, 2, 3));
        int[] zero = {13, 13, 4, 4, 4, 0, 0, 0, 0};
        int[] one = {9, 9, 0, 0, 0, 0, 0, 0, 0};
        for (int a = 1; a <= 9; a++) {
            due.is("worth of slice " + a, x.of(0, 10 + a), zero[a - 1]);
            due.is("worth of slice " + a, x.of(1, 10 + a), one[a - 1]);
        }
        due.is("cost of 0, none eaten", x.of(0, 6), 10);
        due.is("cost of 1, none eaten", x.of(1, 6), 14);
        x.bin(7);
        x.supper();
        due.is("eaten", x.of(0, 3), 5);
        due.is("eaten", x.of(1, 3), 2);
        due.is("cost of 0, 5 eaten", x.of(0, 6), 10);
        due.is("cost of 1, 2 eaten", x.of(1, 6), 11);
        AteLeast none = Due.table("worth 9 a>9;bake 9 a>9", Due.e(0, 0, 5));
        due.is("no worth clause that holds", none.of(0, 11), 0);
        due.is("no bake clause that holds", none.of(0, 6), 0);
        AteLeast bare = Due.table("loaf 5", Due.e(0, 0, 5));
        due.is("no worth clauses", bare.of(0, 19), 1);
        due.is("no bake clauses", bare.of(0, 6), 5);
        AteLeast by = Due.table("worth 3 b=2;worth 5 d=1;bake 8 b>1;bake 2 d<1", Due.e(0, 0, 1));
        due.is("bin 20, day 0", by.of(0, 11), 3);
        due.is("bin 20, day 0", by.of(0, 6), 10);
        by.bin(19);
        due.is("bin 19, day 0", by.of(0, 11), 0);
        due.is("bin 19, day 0", by.of(0, 6), 2);
        by.supper();
        due.is("bin 26, day 1", by.of(0, 11), 8);
        due.is("bin 26, day 1", by.of(0, 6), 8);
        Due.suppers(by, 6);
        by.bin(9);
        due.is("day 7 is as day 0", by.of(0, 6), 2);
        due.is("day 7 is not day 1", by.of(0, 11), 0);
    }

    private static void hunger() {
        AteLeast x = Due.table("", Due.e(0, 0, 4));
        due.is("was 4", x.hunger(0, 9), 4);
        due.is("was 9", x.hunger(0, 0), 9);
        due.is("-1", x.hunger(0, -1), -2);
        due.is("10", x.hunger(0, 10), -2);
        due.is("nobody", x.hunger(1, 3), -1);
        due.is("NONE ahead of BAD", x.hunger(-1, 10), -1);
        due.is("is 0", x.of(0, 2), 0);
    }

    private static void row() {
        AteLeast x = Due.table("", Due.e(3, 0, 4), Due.e(6, 0, 4));
        due.is("was 0", x.row(1, 3, 9), 0);
        due.is("was 9", x.row(1, 3, 0), 9);
        due.is("part 0", x.row(1, 0, 2), 0);
        due.is("part 0 again", x.row(1, 0, 3), 2);
        due.is("part -1", x.row(1, -1, 2), -1);
        due.is("part 4", x.row(1, 4, 2), -1);
        due.is("nobody", x.row(2, 0, 2), -1);
        due.is("NONE ahead of BAD", x.row(1, 4, 10), -1);
        due.is("n 10", x.row(1, 0, 10), -2);
        due.is("n -1", x.row(1, 0, -1), -2);
        due.is("BAD ahead of STATE", x.row(0, 0, 10), -2);
        due.is("the kind above", x.row(0, 0, 1), -3);
        due.is("as it was", x.row(1, 0, 1), 3);
    }

    private static void bin() {
        AteLeast x = new AteLeast();
        due.is("was 20", x.bin(0), 20);
        due.is("was 0", x.bin(99), 0);
        due.is("100", x.bin(100), -2);
        due.is("-1", x.bin(-1), -2);
        due.is("is 99", x.told(3), 99);
    }
}
