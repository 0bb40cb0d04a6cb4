/** Promises 20 to 23: odds, means, books told by hand. */
public final class ChancesTest {
    private static final Due due = new Due("ChancesTest");

    public static void main(String[] args) {
        odds();
        mean();
        book();
        looked();
        due.end();
    }

    private static void fraction(String of, AteLeast x, int eater, long above, long below) {
        due.is("odds of " + of, x.odds(eater, 0), above);
        due.is("odds of " + of + ", below", x.odds(eater, 1), below);
    }

    private static void odds() {
        AteLeast x = Due.table("", Due.e(0, 0, 3), Due.e(0, 0, 2), Due.e(0, 0, 2), Due.e(0, 0, 4));
        fraction("0", x, 0, 0, 1);
        fraction("1", x, 1, 1, 2);
        fraction("2, of two alike", x, 2, 1, 2);
        fraction("3", x, 3, 0, 1);
        x.hunger(1, 1);
        fraction("1, sure", x, 1, 1, 1);
        fraction("2, never", x, 2, 0, 1);
        AteLeast scale = Due.table("scale 4", Due.e(0, 0, 3), Due.e(0, 0, 2), Due.e(0, 0, 0), Due.e(0, 0, 4));
        fraction("0 by scale", scale, 0, 1, 3);
        fraction("2 by scale", scale, 2, 1, 3);
        fraction("3 by scale", scale, 3, 0, 1);
        AteLeast most = Due.table("law 1", Due.e(0, 0, 3), Due.e(0, 0, 4), Due.e(0, 0, 4));
        fraction("0 by law 1", most, 0, 0, 1);
        fraction("2 by law 1", most, 2, 1, 2);
        AteLeast middle = Due.table("law 2", Due.e(0, 0, 3), Due.e(0, 0, 3), Due.e(0, 0, 1), Due.e(0, 0, 4));
        fraction("1 by law 2", middle, 1, 1, 2);
        fraction("2 by law 2", middle, 2, 0, 1);
        x.bin(0);
        fraction("no bread", x, 3, 1, 4);
        due.is("nobody", x.odds(4, 0), AteLeast.NO);
        due.is("nobody", x.odds(-1, 1), AteLeast.NO);
        due.is("part 2", x.odds(0, 2), AteLeast.NO);
        due.is("part -1", x.odds(0, -1), AteLeast.NO);
        due.is("nobody baked by that", x.told(5), -5);
    }

    private static void mean(String of, AteLeast x, int n, long above, long below) {
        due.is("mean of " + of, x.mean(n, 0), above);
        due.is("mean of " + of + ", below", x.mean(n, 1), below);
    }

    private static void mean() {
        // 3 and 1 eaten, one bakes for 5: -1 comes by each supper.
        AteLeast x = Due.table("", Due.e(0, 0, 3), Due.e(0, 0, 1));
        mean("a loss", x, 1, -1, 2);
        mean("a loss, in lowest terms", x, 6, -1, 2);
        x.hunger(0, 4);
        mean("nothing", x, 7, 0, 1);
        x.hunger(0, 9);
        mean("5 by 2", x, 1, 5, 2);
        x.supper();
        mean("what comes, not what is", x, 1, 5, 2);
        x.hunger(1, 2);
        mean("6 by 2", x, 1, 3, 1);
        // The bin is 18, then 15, 12, 9 and 8: 9 and 2 are eaten three times, 9 and 0, 8 and 0: 6, 6, 6, 4, 3 come by it.
        mean("what bread is there", x, 5, 5, 2);
        mean("four of them", x, 4, 11, 4);
        due.is("n 0", x.mean(0, 0), AteLeast.NO);
        due.is("n -1", x.mean(-1, 0), AteLeast.NO);
        due.is("n 61", x.mean(61, 0), AteLeast.NO);
        due.is("part 2", x.mean(1, 2), AteLeast.NO);
        due.is("part -1", x.mean(1, -1), AteLeast.NO);
        due.is("nobody", new AteLeast().mean(1, 0), AteLeast.NO);
        AteLeast all = Due.table("loaf 9", Due.e(0, 0, 9));
        mean("60 alike", all, 60, 4, 1);
    }

    private static void book() {
        AteLeast x = new AteLeast();
        due.is("-2", x.book(-2), -2);
        due.is("100", x.book(100), -2);
        due.is("emptied", x.book(-1), 0);
        for (int k = 1; k <= 12; k++) {
            due.is("row", x.book(k == 1 ? 99 : 0), k);
        }
        due.is("full", x.book(0), -4);
        due.is("BAD ahead of FULL", x.book(100), -2);
        due.is("rows", x.count(2), 12);
        due.is("emptied", x.book(-1), 0);
        due.is("rows", x.count(2), 0);
        due.is("first again", x.book(5), 1);
    }

    private static void looked() {
        // 20, then 21, 22, 23 ..
        AteLeast x = Due.table("", Due.e(0, 0, 7));
        due.is("an empty book", x.looked(), -5);
        for (int k = 1; k <= 12; k++) {
            x.book(20 + k);
            due.is("as it is", x.looked(), -5);
        }
        x.supper();
        due.is("from now on", x.looked(), 0);
        x.book(-1);
        x.book(22);
        x.book(23);
        x.book(25);
        x.book(25);
        due.is("the first that is otherwise", x.looked(), 2);
        AteLeast nobody = new AteLeast();
        nobody.book(20);
        nobody.book(20);
        due.is("nobody eats", nobody.looked(), -5);
        nobody.book(21);
        due.is("nobody bakes", nobody.looked(), 2);
    }
}
