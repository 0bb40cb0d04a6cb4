/** Promises 13 to 19: rows where nobody gains, the best for all, laws, cooks, thin bins, pacts, guests. */
public final class BestTest {
    private static final Due due = new Due("BestTest");
    private static final int FAR_NONE = -1000001, FAR_BAD = -1000002;

    public static void main(String[] args) {
        still();
        allBest();
        rowsWrong();
        laws();
        cook();
        thin();
        pact();
        guest();
        due.end();
    }

    private static AteLeast table(int bin, String text, int... hungers) {
        AteLeast x = Due.table(text);
        for (int hunger : hungers) {
            x.eater(0, 0, hunger);
        }
        x.bin(bin);
        return x;
    }

    private static void rows(String of, AteLeast x, int still, int[] first) {
        due.is("still of " + of, x.still(0), still);
        for (int e = 0; e < first.length; e++) {
            due.is("still of " + of + ", " + e, x.still(10 + e), first[e]);
        }
    }

    private static void best(String of, AteLeast x, int most, int[] first) {
        due.is("all best of " + of, x.allBest(0), most);
        for (int e = 0; e < first.length; e++) {
            due.is("all best of " + of + ", " + e, x.allBest(10 + e), first[e]);
        }
    }

    private static void still() {
        rows("nobody", new AteLeast(), 1, new int[0]);
        rows("one alone, who bakes anyhow", table(20, "", 1), 1, new int[] {3});
        rows("no bread: all rows", table(0, "", 1, 1), 16, new int[] {0, 0});
        rows("two of whom each would rather not bake", table(20, "", 9, 0), 1, new int[] {3, 3});
        // 0 bakes if it eats no more than 1, who eats 3 then; what 0 eats is worth nothing to it.
        rows("one that can't help it", table(20, "worth 1 i=1;bake 9 i=0", 1, 1), 4, new int[] {0, 3});
        // Who eats most bakes: each would eat as much as the other or a slice less.
        rows("one after the other", table(20, "law 1;worth 1 i<9;bake 3 i<9", 1, 1), 0, new int[] {-5, -5});
        rows("the bread of a few", table(3, "law 1;worth 1 i<9;bake 3 i<9", 1, 1), 2, new int[] {3, 0});
        rows("four", table(99, "", 1, 1, 1, 1), 1, new int[] {3, 3, 3, 3});
        rows("four without bread", table(0, "", 1, 1, 1, 1), 256, new int[] {0, 0, 0, 0});
        // To the scales all rows are alike: 0 bakes, and all eat what they can.
        rows("coarse scales", table(20, "scale 9", 1, 1, 1), 1, new int[] {3, 3, 3});
        // 1 bakes if it eats more than 0: only by eating nothing it never does.
        rows("by eating nothing", table(20, "law 1;worth 0 a=1;bake 9 i<9", 1, 1), 4, new int[] {0, 0});
        rows("worth nothing at all", table(20, "worth 0 a=1;bake 0 a=1", 1, 1), 16, new int[] {0, 0});
    }

    private static void allBest() {
        best("nobody", new AteLeast(), 0, new int[0]);
        best("one alone", table(20, "", 1), -2, new int[] {3});
        best("two", table(20, "", 1, 1), 1, new int[] {3, 3});
        best("no bread", table(0, "", 1, 1), -5, new int[] {0, 0});
        best("by numbers the first", table(3, "", 1, 1), -2, new int[] {0, 3});
        best("slices that are worth more to 0", table(3, "worth 2 i=0;worth 1 i=1", 1, 1), 1, new int[] {3, 0});
        best("0 bakes cheaper", table(3, "bake 1 i=0;bake 9 i=1", 1, 1), 2, new int[] {0, 3});
        best("1 bakes cheaper", table(3, "bake 9 i=0;bake 1 i=1", 1, 1), 2, new int[] {2, 1});
    }

    private static void rowsWrong() {
        AteLeast x = table(20, "", 1, 1);
        int[] wrong = {-1, 1, 9, 12, 14, 20, Integer.MIN_VALUE, Integer.MAX_VALUE};
        for (int what : wrong) {
            due.is("still(" + what + ")", x.still(what), FAR_NONE);
            due.is("allBest(" + what + ")", x.allBest(what), FAR_NONE);
        }
        AteLeast five = table(20, "", 1, 1, 1, 1, 1);
        int[] of = {0, 10, 14};
        for (int what : of) {
            due.is("still of five", five.still(what), -9);
            due.is("allBest of five", five.allBest(what), -9);
        }
        due.is("NONE ahead of -9", five.still(15), FAR_NONE);
        due.is("NONE ahead of -9", five.allBest(1), FAR_NONE);
    }

    private static void laws() {
        due.is("laws of nobody", new AteLeast().laws(5), 0);
        due.is("the least bakes cheapest", table(99, "bake 1 i=0;bake 9 i>0", 1, 3, 5).laws(3), 0);
        due.is("the most bakes cheapest", table(99, "bake 1 i=2;bake 9 i<2", 1, 3, 5).laws(3), 1);
        due.is("the middle bakes cheapest", table(99, "bake 1 i=1;bake 9 !i=1", 1, 3, 5).laws(3), 2);
        due.is("in place of the house's", table(99, "law 2;bake 1 i=0;bake 9 i>0", 1, 3, 5).laws(1), 0);
        due.is("of several the least", table(99, "law 1", 1, 3, 5).laws(9), 0);
        due.is("of 1 and 2 the least", table(99, "bake 9 i=0", 1, 3, 5).laws(9), 1);
        due.is("none to come", table(99, "law 1;bake 9 i=0", 1, 3, 5).laws(0), 0);
        AteLeast x = table(99, "law 1;bake 9 i=2", 1, 3, 5);
        due.is("60", x.laws(60), 0);
        due.is("61", x.laws(61), -2);
        due.is("-1", x.laws(-1), -2);
        due.is("the law stays", x.supper(), 2);
        due.is("the law stays", x.told(1), 1);
        // A BEST one thinks by each law: by 0 it eats 3 and not 2, by 1 only 1, which spares it 9.
        AteLeast thinks = Due.table("worth 5 a<3;bake 9 i<9;law 1", Due.e(4, 0, 0), Due.e(0, 0, 2));
        due.is("by law 1 it eats one slice", thinks.run(1, 10), 5);
        due.is("by law 0 they have 11, by 1 they have 6", thinks.laws(1), 0);
    }

    private static void cook() {
        AteLeast x = table(99, "", 1, 2);
        due.is("0 bakes four times", x.cook(0, 4), 20);
        due.is("1 never", x.cook(1, 4), 0);
        due.is("none to come", x.cook(0, 0), 0);
        due.is("60", x.cook(0, 60), 300);
        due.is("nobody", x.cook(2, 4), FAR_NONE);
        due.is("nobody", x.cook(-1, 4), FAR_NONE);
        due.is("61", x.cook(0, 61), FAR_BAD);
        due.is("-1", x.cook(0, -1), FAR_BAD);
        due.is("NONE ahead of BAD", x.cook(2, 61), FAR_NONE);
        x.supper();
        due.is("costs as ever", x.of(0, 4), -4);
        due.is("more from now on", x.cook(0, 1), 5);
        // Without cost BEST eats two slices, not three: the other one bakes either way or 0 does.
        AteLeast best = Due.table("worth 5 a<3;bake 9 i<9", Due.e(4, 0, 0), Due.e(0, 0, 2));
        due.is("cost of the other, spared", best.cook(1, 1), 9);
        due.is("BEST gains nothing", best.cook(0, 1), 0);
        best.bin(4);
        // 3 of 4 slices for BEST leave one; without cost it leaves two.
        due.is("cost spared and a slice more", best.cook(1, 1), 14);
    }

    private static void thin() {
        AteLeast x = table(20, "", 4, 5);
        for (int n = 1; n <= 8; n++) {
            due.is("9 eaten, 8 baked, " + n, x.thin(n), 8 + n);
        }
        due.is("none to come", x.thin(0), 0);
        due.is("9", x.thin(9), -2);
        due.is("-1", x.thin(-1), -2);
        due.is("the bin stays", x.told(3), 20);
        due.is("nothing baked", table(0, "loaf 0", 4, 5).thin(8), 72);
        due.is("11 suppers of 9", table(0, "loaf 0", 9).thin(8), 72);
        due.is("all of 99", table(0, "loaf 0", 9, 9, 9, 6).thin(3), 99);
        due.is("more than 99", table(0, "loaf 0", 9, 9, 9, 7).thin(3), -5);
        due.is("of nobody", new AteLeast().thin(8), 0);
        due.is("who wishes nothing", table(50, "loaf 0", 0, 0).thin(8), 0);
    }

    private static void pact() {
        AteLeast x = table(99, "", 4, 4, 2);
        due.is("0 and 1", x.pact(0, 1, 1), -4);
        due.is("by turns", x.pact(0, 1, 2), -8);
        due.is("0 and 2", x.pact(0, 2, 1), 3);
        due.is("the other way round", x.pact(2, 0, 1), 3);
        due.is("none to come", x.pact(0, 1, 0), 0);
        due.is("one", x.pact(1, 1, 5), FAR_BAD);
        due.is("-1", x.pact(0, 1, -1), FAR_BAD);
        due.is("61", x.pact(0, 1, 61), FAR_BAD);
        due.is("nobody", x.pact(0, 3, 5), FAR_NONE);
        due.is("nobody", x.pact(-1, 0, 5), FAR_NONE);
        due.is("NONE ahead of BAD", x.pact(3, 3, 61), FAR_NONE);
        due.is("no pact at suppers", x.supper(), 2);
        AteLeast days = table(99, "bake 1 i=0;bake 7 i=1", 4, 4);
        due.is("the lesser one bakes on day 0", days.pact(0, 1, 1), 1);
        due.is("the other one on day 1", days.pact(1, 0, 2), -4);
        days.supper();
        due.is("from day 1 on", days.pact(1, 0, 1), -5);
        // BEST thinks that 1 and 2 eat a slice each, and eats nothing, so that 2 gets all six.
        AteLeast best = Due.table("law 1;worth 5 i<9;bake 30 i<9", Due.e(4, 0, 0), Due.e(0, 0, 1), Due.e(0, 0, 1));
        best.bin(6);
        due.is("BEST thinks as ever", best.pact(1, 2, 1), 20);
    }

    private static void guest() {
        AteLeast x = table(20, "", 3, 4);
        due.is("eats least", x.guest(2), 2);
        due.is("as much as 0", x.guest(3), 0);
        due.is("most", x.guest(9), 0);
        due.is("-1", x.guest(-1), -2);
        due.is("10", x.guest(10), -2);
        due.is("nobody stays", x.count(0), 2);
        due.is("alone", new AteLeast().guest(9), 0);
        AteLeast crumb = Due.table("", Due.e(2, 0, 0), Due.e(0, 0, 5));
        crumb.supper();
        due.is("0 sees the guest, who has eaten nothing", crumb.guest(1), 0);
        AteLeast turns = Due.table("", Due.e(0, 0, 3), Due.e(3, 0, 5));
        Due.suppers(turns, 2);
        due.is("day 2 of three is not 1's turn", turns.guest(9), 0);
        turns.supper();
        turns.supper();
        due.is("day 4 of three is 1's turn", turns.guest(9), 1);
        due.is("bread is short behind the others", table(7, "", 3, 4).guest(9), 2);
        due.is("kind 0", table(20, "bake 1 k=0", 3).guest(1), 1);
        AteLeast four = table(99, "", 5, 5, 5, 5);
        due.is("a fifth", four.guest(4), 4);
        four.eater(0, 0, 0);
        due.is("a sixth", four.guest(4), -3);
        due.is("BAD ahead of STATE", four.guest(10), -2);
    }
}
