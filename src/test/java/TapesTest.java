/** Promises 24 to 34: judging, the image, acts and their trace, kinds, counts, tapes. */
public final class TapesTest {
    private static final Due due = new Due("TapesTest");
    private static final int MIN = Integer.MIN_VALUE, MAX = Integer.MAX_VALUE;

    public static void main(String[] args) {
        judge();
        image();
        imageKeeps();
        act();
        actWrong();
        taken();
        count();
        tape();
        item();
        read();
        shift();
        due.end();
    }

    private static AteLeast fed() {
        AteLeast x = Due.table("", Due.e(0, 0, 3), Due.e(0, 0, 4), Due.e(0, 0, 9));
        x.supper();
        return x;
    }

    private static void judge() {
        AteLeast x = fed();
        x.tape(0, 2, 5);
        long[] glad = {-2, 4, 9};
        for (int e = 0; e < 3; e++) {
            due.is("glad", x.of(e, 4), glad[e]);
            x.item(0, e + 2, glad[e]);
        }
        due.is("all as told", x.judge(0, 2), -5);
        due.is("0 is otherwise", x.judge(0, 1), 0);
        due.is("ends", x.judge(0, 5), 100);
        due.is("beyond", x.judge(0, 6), 100);
        due.is("far beyond", x.judge(0, MAX), 100);
        due.is("below 0", x.judge(0, -1), 100);
        due.is("far below 0", x.judge(0, MIN), 100);
        x.item(0, 4, 8);
        due.is("2 is otherwise", x.judge(0, 2), 2);
        x.item(0, 3, -2);
        x.item(0, 4, 4);
        due.is("two were looked at", x.judge(0, 3), 102);
        x.item(0, 4, -2);
        due.is("one was looked at", x.judge(0, 4), 101);
        due.is("holds nothing", x.judge(5, 0), 100);
        due.is("no such tape", x.judge(6, 0), -1);
        due.is("no such tape", x.judge(-1, 0), -1);
        int[] others = {0, 1, 3, 4};
        for (int sort : others) {
            x.tape(1, sort, 5);
            due.is("sort " + sort, x.judge(1, 0), -12);
            due.is("sort " + sort + ", place below 0", x.judge(1, -1), -12);
        }
        x.tape(1, 2, 0);
        due.is("an empty row", x.judge(1, 0), 100);
        AteLeast nobody = new AteLeast();
        due.is("nobody, nothing held", nobody.judge(0, 0), -5);
        due.is("nobody, place below 0", nobody.judge(0, -1), -5);
        nobody.tape(0, 3, 1);
        due.is("nobody, another sort", nobody.judge(0, 0), -12);
    }

    private static void image() {
        AteLeast x = new AteLeast();
        due.is("there is none", x.undo(), -3);
        due.is("of nobody", x.image(), 0);
        x.eater(6, 1, 2);
        x.eater(4, 1, 2);
        due.is("nobody", x.undo(), 0);
        due.is("nobody", x.count(0), 0);
        x.eater(6, 7, 8);
        due.is("a new one is new", x.row(0, 0, 3), 0);
        due.is("of one", x.image(), 1);
        due.is("one", x.undo(), 1);
        due.is("again", x.undo(), 1);
        due.is("row as it was", x.row(0, 0, 4), 3);
        x.undo();
        due.is("the image stays as it was", x.row(0, 0, 4), 3);
    }

    private static void imageKeeps() {
        AteLeast x = Due.table("loaf 3;law 1", Due.e(6, 0, 3), Due.e(1, 2, 4));
        x.row(0, 1, 7);
        x.supper();
        x.book(5);
        x.bin(33);
        x.tape(0, 0, 2);
        x.act(0, 0, 1);
        x.feed('l');
        x.image();
        x.eater(2, 3, 4);
        Due.suppers(x, 3);
        x.row(0, 1, 2);
        x.hunger(1, 9);
        x.book(6);
        x.feed('o');
        Due.house(x, "af 9");
        x.feed('w');
        x.item(0, 0, 5);
        x.act(0, 1, 1);
        due.is("eaters", x.undo(), 2);
        due.is("bin", x.told(3), 33);
        due.is("day", x.told(4), 1);
        due.is("baker", x.told(5), 1);
        due.is("the house that held", x.told(0), 3);
        due.is("its law", x.told(1), 1);
        due.is("book", x.count(2), 1);
        due.is("hunger", x.of(1, 2), 4);
        due.is("eaten", x.of(1, 3), 6);
        due.is("glad", x.of(1, 4), 1);
        due.is("row", x.row(0, 1, 0), 7);
        due.is("houses are no part of it", x.count(1), 2);
        due.is("nor the text", x.count(3), 1);
        due.is("nor tapes", x.read(0, 0), 5);
        due.is("nor the trace", x.trace(0), 70);
        due.is("the next house has the next number", Due.house(x, "") == -11 ? Due.house(x, "law 2") : 0, 2);
        AteLeast all = Due.table("", Due.e(6, 0, 0), Due.e(6, 0, 0), Due.e(6, 0, 0), Due.e(6, 0, 0), Due.e(6, 0, 0));
        for (int k = 0; k < 20; k++) {
            all.row(k / 4, k % 4, k % 9 + 1);
        }
        for (int k = 0; k < 12; k++) {
            all.book(all.run(k + 1, 0));
        }
        all.image();
        for (int k = 0; k < 20; k++) {
            all.row(k / 4, k % 4, 0);
        }
        all.book(-1);
        for (int k = 0; k < 12; k++) {
            all.book(99);
        }
        all.undo();
        due.is("the book's rows", all.looked(), -5);
        for (int k = 0; k < 20; k++) {
            due.is("row " + k, all.row(k / 4, k % 4, 0), k % 9 + 1);
        }
        AteLeast bare = Due.table("", Due.e(0, 0, 1));
        bare.image();
        Due.house(bare, "loaf 3");
        bare.undo();
        due.is("no house held", bare.told(0), 8);
        due.is("one house", bare.count(1), 1);
        AteLeast fresh = Due.table("", Due.e(0, 0, 5));
        fresh.image();
        fresh.eater(6, 3, 3);
        fresh.row(1, 0, 9);
        fresh.supper();
        fresh.undo();
        fresh.eater(6, 3, 3);
        due.is("nothing is left of who was there", fresh.row(1, 0, 0), 0);
        due.is("nothing eaten", fresh.of(1, 3), 0);
        due.is("not glad", fresh.of(1, 4), 0);
    }

    private static void bodies(String of, AteLeast x, int... wants) {
        due.is("bodies of " + of, x.count(4), wants.length);
        for (int k = 0; k < wants.length; k++) {
            due.is("body " + k + " of " + of, x.trace(k), wants[k]);
        }
        due.is("behind the last body of " + of, x.trace(wants.length), -1);
    }

    private static void act() {
        // All are number 1 or 2, v 5.
        for (int kind = 0; kind < 7; kind++) {
            AteLeast x = Due.table("", Due.e(0, 0, 0), Due.e(kind, 5, 0));
            int[][] answers = {
                {8, 3, 6}, {8, 5, 10}, {22, 17, 34}, {8, 3, 6 - 3}, {-8, -12, -24}, {22, 17, 28},
                {13, 8 + 3, 2 * 11 + (2 ^ 5) - 5 + 3},
            };
            int[][] eats = {{10}, {10}, {30, 10}, {10}, {50, 10}, {30, 10}, {71, 10}};
            int[][] bakes = {{11, 10}, {20, 11, 10}, {11, 30, 10}, {11, 10}, {51, 20, 11, 50, 10}, {11, 30, 10},
                {70, 11, 71, 10, 10}};
            int[][] tells = {{12, 11, 10}, {12, 20, 11, 10}, {12, 11, 30, 10}, {40, 12, 11, 10, 11, 10},
                {12, 51, 20, 11, 50, 10}, {60, 12, 11, 30, 10},
                {40, 12, 70, 11, 71, 10, 10, 70, 11, 71, 10, 10}};
            due.is("kind " + kind + " eats", x.act(1, 0, 7), answers[kind][0]);
            bodies("kind " + kind + " eats", x, eats[kind]);
            due.is("kind " + kind + " bakes", x.act(1, 1, 7), answers[kind][1]);
            bodies("kind " + kind + " bakes", x, bakes[kind]);
            due.is("kind " + kind + " tells", x.act(1, 2, 7), answers[kind][2]);
            bodies("kind " + kind + " tells", x, tells[kind]);
        }
        AteLeast x = Due.table("", Due.e(0, 0, 0), Due.e(2, 0, 0), Due.e(4, 0, 0));
        due.is("wraps", x.act(1, 0, MAX), MAX - 1);
        due.is("wraps", x.act(2, 0, MAX), -(MAX + 2));
        due.is("wraps", x.act(0, 2, MIN + 1), 2);
    }

    private static void actWrong() {
        AteLeast x = Due.table("", Due.e(0, 0, 0));
        int[][] wrong = {{1, 0}, {-1, 0}, {0, 3}, {0, -1}, {MAX, MAX}, {MIN, MIN}};
        for (int[] w : wrong) {
            due.is("eats", x.act(0, 0, 7), 7);
            due.is("a trace", x.trace(0), 10);
            due.is("act(" + w[0] + ", " + w[1] + ")", x.act(w[0], w[1], 7), 0);
            bodies("no act", x);
        }
        x.act(0, 2, 1);
        due.is("place -1", x.trace(-1), -1);
        due.is("place 3", x.trace(3), -1);
        due.is("place 20", x.trace(20), -1);
        due.is("place MAX", x.trace(MAX), -1);
        x.act(0, 0, 1);
        bodies("the latest", x, 10);
    }

    private static void taken() {
        int[][] above = {{0}, {1, 0}, {2, 0}, {3, 0}, {4, 1, 0}, {5, 2, 0}, {6, 3, 0}};
        for (int kind = 0; kind < 7; kind++) {
            AteLeast x = Due.table("", Due.e(kind, 0, 0));
            for (int k = 0; k < 7; k++) {
                int want = -12;
                for (int a : above[kind]) {
                    want = a == k ? kind : want;
                }
                due.is("kind " + kind + " for " + k, x.taken(0, k), want);
            }
            due.is("k -1", x.taken(0, -1), -2);
            due.is("k 7", x.taken(0, 7), -2);
            due.is("nobody", x.taken(1, 0), -11);
            due.is("nobody", x.taken(-1, 0), -11);
            due.is("BAD ahead of NOTHING", x.taken(1, 7), -2);
        }
    }

    private static void count() {
        AteLeast x = Due.table("law 1", Due.e(0, 0, 0), Due.e(1, 0, 0));
        Due.house(x, "law 2");
        Due.house(x, "law");
        x.book(3);
        x.feed('l');
        x.feed('a');
        x.feed('w');
        x.act(1, 1, 3);
        int[] wants = {2, 2, 1, 3, 3};
        for (int what = 0; what < 5; what++) {
            due.is("count(" + what + ")", x.count(what), wants[what]);
        }
        due.is("count(5)", x.count(5), -2);
        due.is("count(-1)", x.count(-1), -2);
    }

    private static void tape() {
        AteLeast x = new AteLeast();
        due.is("tape -1", x.tape(-1, 0, 1), -1);
        due.is("tape 6", x.tape(6, 0, 1), -1);
        due.is("NONE ahead of BAD", x.tape(6, 9, -1), -1);
        due.is("sort -2", x.tape(0, -2, 1), -2);
        due.is("sort 5", x.tape(0, 5, 1), -2);
        due.is("n 61", x.tape(0, 0, 61), -2);
        due.is("n -1", x.tape(0, 0, -1), -14);
        due.is("n MIN", x.tape(0, 4, MIN), -14);
        due.is("BAD ahead of SIZE", x.tape(0, 5, -1), -2);
        due.is("still nothing", x.item(0, 0, 1), -11);
        for (int sort = 0; sort < 5; sort++) {
            due.is("sort " + sort, x.tape(sort, sort, 60), 1);
            due.is("last item", x.read(sort, 59), 0);
            due.is("beyond", x.read(sort, 60), AteLeast.NO);
        }
        x.item(1, 3, 77);
        due.is("refused", x.tape(1, 1, 61), -2);
        due.is("as it was", x.read(1, 3), 77);
        due.is("anew", x.tape(1, 1, 5), 1);
        due.is("all 0", x.read(1, 3), 0);
        due.is("shorter", x.read(1, 5), AteLeast.NO);
        due.is("longer", x.tape(1, 1, 9), 1);
        due.is("all 0", x.read(1, 8), 0);
        due.is("nothing, whatever n", x.tape(1, -1, 99), 1);
        due.is("nothing", x.read(1, 0), AteLeast.NO);
        due.is("nothing, whatever n", x.tape(2, -1, -99), 1);
        due.is("nothing", x.item(2, 0, 0), -11);
        due.is("of none", x.tape(3, 2, 0), 1);
        due.is("no place", x.item(3, 0, 0), -13);
    }

    private static void item() {
        AteLeast x = new AteLeast();
        long[] v = {0, 1, -1, 127, 128, 255, 256, 40000, 70000, 1L << 31, 1L << 32, Long.MIN_VALUE + 1, Long.MAX_VALUE};
        for (int sort = 0; sort < 5; sort++) {
            x.tape(sort, sort, 3);
            for (long n : v) {
                due.is("item", x.item(sort, 1, n), 1);
                long want = sort == 0 ? (byte) n : sort == 1 ? (short) n : sort == 2 ? (int) n
                    : sort == 3 ? n : n == 0 ? 0 : 1;
                due.is(n + " as sort " + sort, x.read(sort, 1), want);
                due.is("beside it", x.read(sort, 0), 0);
                due.is("beside it", x.read(sort, 2), 0);
            }
        }
        due.is("tape -1", x.item(-1, 0, 1), -1);
        due.is("tape 6", x.item(6, 0, 1), -1);
        due.is("nothing", x.item(5, 0, 1), -11);
        due.is("NOTHING ahead of PLACE", x.item(5, -1, 1), -11);
        due.is("place -1", x.item(0, -1, 1), -13);
        due.is("place 3", x.item(0, 3, 1), -13);
        due.is("place MIN", x.item(0, MIN, 1), -13);
    }

    private static void read() {
        AteLeast x = new AteLeast();
        x.tape(0, 3, 2);
        x.item(0, 1, -9);
        due.is("item", x.read(0, 1), -9);
        int[][] wrong = {{-1, 0}, {6, 0}, {1, 0}, {0, -1}, {0, 2}, {MAX, MAX}, {0, MIN}, {0, MAX}};
        for (int[] w : wrong) {
            due.is("read(" + w[0] + ", " + w[1] + ")", x.read(w[0], w[1]), AteLeast.NO);
        }
    }

    private static void row(String of, AteLeast x, int tape, int... wants) {
        for (int k = 0; k < wants.length; k++) {
            due.is("item " + k + " " + of, x.read(tape, k), wants[k]);
        }
    }

    private static void shift() {
        AteLeast x = new AteLeast();
        x.tape(0, 1, 5);
        x.tape(1, 1, 3);
        x.tape(2, 0, 5);
        for (int k = 0; k < 5; k++) {
            x.item(0, k, k + 1);
        }
        due.is("on itself, on", x.shift(0, 0, 0, 1, 4), 4);
        row("moved on", x, 0, 1, 1, 2, 3, 4);
        due.is("on itself, back", x.shift(0, 2, 0, 0, 3), 3);
        row("moved back", x, 0, 2, 3, 4, 3, 4);
        due.is("to another", x.shift(0, 1, 1, 0, 3), 3);
        row("moved over", x, 1, 3, 4, 3);
        row("as it was", x, 0, 2, 3, 4, 3, 4);
        due.is("none at the ends", x.shift(0, 5, 1, 3, 0), 0);
        int[][] places = {{6, 0, 0}, {0, 4, 0}, {-1, 0, 1}, {0, -1, 1}, {0, 0, -1}, {3, 0, 3}, {0, 1, 3}, {0, 0, 4},
            {MAX, 0, 1}, {0, MAX, 1}, {1, 1, MAX}, {MIN, 0, 0}, {0, MIN, 0}, {0, 0, MIN}, {MAX, MAX, MAX}};
        for (int[] p : places) {
            due.is("place " + p[0] + " " + p[1] + " " + p[2], x.shift(0, p[0], 1, p[1], p[2]), -13);
        }
        row("as it was", x, 1, 3, 4, 3);
        due.is("unlike sorts", x.shift(0, 0, 2, 0, 1), -12);
        due.is("CAST ahead of PLACE", x.shift(0, 9, 2, 0, 1), -12);
        due.is("from nothing", x.shift(3, 0, 0, 0, 1), -11);
        due.is("to nothing", x.shift(0, 0, 3, 0, 1), -11);
        due.is("NOTHING ahead of PLACE", x.shift(0, 0, 3, 0, -1), -11);
        due.is("nothing to nothing", x.shift(3, 0, 3, 0, 0), -11);
        due.is("tape -1", x.shift(-1, 0, 3, 0, 1), -1);
        due.is("tape 6", x.shift(0, 0, 6, 0, 1), -1);
        due.is("other -1", x.shift(0, 0, -1, 0, 1), -1);
        due.is("from tape 6", x.shift(6, 0, 0, 0, 1), -1);
        due.is("from tape 7", x.shift(7, 0, 0, 0, 1), -1);
        due.is("NONE ahead of NOTHING", x.shift(3, 0, 6, 0, 1), -1);
    }
}
