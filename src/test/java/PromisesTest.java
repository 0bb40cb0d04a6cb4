/** Promise 1 to 34, each under its heading: the edges of what each answers. (What is refused: AnswersTest.) */
public final class PromisesTest {
    private static final Due due = new Due("PromisesTest");
    private static final int MIN = Integer.MIN_VALUE, MAX = Integer.MAX_VALUE;
    private static final long NO = AteLeast.NO;

    public static void main(String[] args) {
        promise1NewObject();
        promise2Eater();
        promise3Of();
        promise4Hunger();
        promise5Row();
        promise6Bin();
        promise7Feed();
        promise8House();
        promise8HouseFaults();
        promise8HouseBehindLongFaults();
        promise9Told();
        promise10Supper();
        promise11Run();
        promise11RunOfAllKinds();
        promise12Round();
        promise13Still();
        promise14AllBest();
        promise15Laws();
        promise16Cook();
        promise17Thin();
        promise18Pact();
        promise19Guest();
        promise20Odds();
        promise21Mean();
        promise22Book();
        promise23Looked();
        promise24Judge();
        promise25And26Image();
        promise26WhatIsNoPart();
        promise27ActWraps();
        promise28Trace();
        promise29Taken();
        promise30Count();
        promise31Tape();
        promise32Item();
        promise33Read();
        promise34Shift();
        due.end();
    }

    /** EATERS of KIND 0 with those HUNGERS, that bread. */
    private static AteLeast table(int bread, String house, int... hungers) {
        AteLeast x = Due.table(house);
        for (int hunger : hungers) {
            x.eater(0, 0, hunger);
        }
        x.bin(bread);
        return x;
    }

    // ==== Promise 1: A new object

    private static void promise1NewObject() {
        AteLeast used = Due.table("loaf 3;law 1;worth 9 a=1", Due.e(0, 0, 1), Due.e(6, 1, 1));
        used.supper();
        used.book(3);
        used.image();
        used.tape(0, 2, 3);
        used.act(0, 0, 1);
        used.feed('l');
        AteLeast x = new AteLeast();
        int[] told = {8, 0, 1, 20, 0, -5};
        for (int what = 0; what <= 5; what++) {
            due.is("new: told(" + what + ")", x.told(what), told[what]);
        }
        for (int what = 0; what <= 4; what++) {
            due.is("new: count(" + what + ")", x.count(what), 0);
        }
        for (int tape = 0; tape <= 5; tape++) {
            due.is("new: TAPE " + tape + " holds nothing", x.item(tape, 0, 1), -11);
        }
        due.is("new: no IMAGE", x.undo(), -3);
        due.is("new: no TRACE", x.trace(0), -1);
        due.is("new: an empty BOOK", x.looked(), -5);
        due.is("new: nobody", x.of(0, 0), -1000001);
        due.is("new: the first", x.eater(0, 0, 0), 0);
        due.is("new: no HOUSE, no worth CLAUSES", x.of(0, 11), 1);
        due.is("new: no HOUSE, no bake CLAUSES", x.of(0, 6), 5);
        due.is("new: the first HOUSE", Due.house(x, "law 1"), 0);
    }

    // ==== Promise 2: eater

    private static void promise2Eater() {
        for (int kind = 0; kind <= 6; kind++) {
            AteLeast x = new AteLeast();
            due.is("KIND " + kind + ", 0 and 0", x.eater(kind, 0, 0), 0);
            due.is("KIND " + kind + ", 9 and 9", x.eater(kind, 9, 9), 1);
            due.is("KIND", x.of(1, 0), kind);
            due.is("v 0", x.of(0, 1), 0);
            due.is("HUNGER 0", x.of(0, 2), 0);
            due.is("v 9", x.of(1, 1), 9);
            due.is("HUNGER 9", x.of(1, 2), 9);
        }
        AteLeast x = new AteLeast();
        x.eater(7, 0, 0);
        x.eater(0, 10, 0);
        x.eater(0, 0, -1);
        for (int e = 0; e <= 4; e++) {
            due.is("as they come", x.eater(0, 0, e), e);
        }
        due.is("a sixth", x.eater(0, 0, 0), -4);
        due.is("still five", x.count(0), 5);
        x.image();
        AteLeast y = table(20, "", 1, 2);
        y.image();
        for (int e = 2; e <= 4; e++) {
            y.eater(0, 0, e);
        }
        due.is("full", y.eater(0, 0, 0), -4);
        y.undo();
        due.is("no longer full", y.eater(0, 0, 0), 2);
    }

    // ==== Promise 3: of

    private static void promise3Of() {
        AteLeast x = Due.table("worth 3 a=1;worth 2 a=9;bake 4 a=0;bake 6 a=9", Due.e(1, 9, 9), Due.e(0, 7, 0));
        x.supper();
        int[] zero = {1, 9, 9, 9, 5, 9, 6};
        int[] one = {0, 7, 0, 0, -4, 0, 4};
        for (int what = 0; what <= 6; what++) {
            due.is("of(0, " + what + ")", x.of(0, what), zero[what]);
            due.is("of(1, " + what + ")", x.of(1, what), one[what]);
        }
        for (int a = 1; a <= 9; a++) {
            due.is("slice " + a, x.of(1, 10 + a), a == 1 ? 3 : a == 9 ? 2 : 0);
        }
        due.is("no slice 0", x.of(0, 10), -1000001);
        due.is("no slice 10", x.of(0, 20), -1000001);
        due.is("between COST and slices", x.of(0, 7), -1000001);
        due.is("between COST and slices", x.of(0, 9), -1000001);
        due.is("below 0", x.of(0, -1), -1000001);
        due.is("no EATER 2", x.of(2, 0), -1000001);
        due.is("no EATER -1", x.of(-1, 0), -1000001);
        due.is("GLAD below 0", x.of(1, 4), -4);
    }

    // ==== Promise 4: hunger

    private static void promise4Hunger() {
        AteLeast x = table(20, "", 4, 5, 6, 7, 8);
        due.is("of the last one", x.hunger(4, 0), 8);
        due.is("was 0", x.hunger(4, 9), 0);
        due.is("was 9", x.hunger(4, 9), 9);
        due.is("-1", x.hunger(4, -1), -2);
        due.is("10", x.hunger(4, 10), -2);
        due.is("as it was", x.of(4, 2), 9);
        due.is("the one beside", x.of(3, 2), 7);
        due.is("no EATER 5", x.hunger(5, 0), -1);
        due.is("no EATER -1", x.hunger(-1, 0), -1);
    }

    // ==== Promise 5: row

    private static void promise5Row() {
        AteLeast x = Due.table("", Due.e(6, 0, 0), Due.e(6, 0, 0), Due.e(6, 0, 0), Due.e(6, 0, 0), Due.e(6, 0, 0));
        for (int k = 0; k < 20; k++) {
            due.is("was 0", x.row(k / 4, k % 4, k % 10), 0);
        }
        for (int k = 0; k < 20; k++) {
            due.is("each its own", x.row(k / 4, k % 4, 9), k % 10);
        }
        due.is("part -1", x.row(2, -1, 5), -1);
        due.is("part 4", x.row(2, 4, 5), -1);
        due.is("n -1", x.row(2, 0, -1), -2);
        due.is("n 10", x.row(2, 3, 10), -2);
        for (int e = 0; e < 5; e++) {
            due.is("as it was", x.row(e, 0, 0), 9);
            due.is("as it was", x.row(e, 3, 0), 9);
        }
        for (int kind = 0; kind <= 5; kind++) {
            due.is("KIND " + kind, Due.table("", Due.e(kind, 0, 0)).row(0, 0, 0), -3);
        }
    }

    // ==== Promise 6: bin

    private static void promise6Bin() {
        AteLeast x = new AteLeast();
        due.is("was 20", x.bin(0), 20);
        due.is("was 0", x.bin(99), 0);
        due.is("-1", x.bin(-1), -2);
        due.is("100", x.bin(100), -2);
        due.is("was 99", x.bin(1), 99);
        due.is("is 1", x.told(3), 1);
    }

    // ==== Promise 7: feed

    private static void promise7Feed() {
        AteLeast x = new AteLeast();
        due.is("sign 0", x.feed(0), 1);
        due.is("sign 127", x.feed(127), 2);
        due.is("sign -1", x.feed(-1), -2);
        due.is("sign 128", x.feed(128), -2);
        for (int k = 3; k <= 100; k++) {
            due.is("how many it has", x.feed(32), k);
        }
        due.is("the 101st", x.feed(32), -4);
        due.is("it has 100", x.count(3), 100);
        due.is("sign 0 begins none", x.house(), -10);
        due.is("empty then", x.feed('l'), 1);
        AteLeast y = new AteLeast();
        for (int k = 0; k < 6; k++) {
            y.feed("law 12".charAt(k));
        }
        due.is("a HOUSE", y.house(), 0);
        due.is("empty then", y.feed('l'), 1);
    }

    // ==== Promise 8: house

    private static void promise8House() {
        AteLeast x = new AteLeast();
        due.is("an empty TEXT", x.house(), -10);
        for (int k = 0; k < 6; k++) {
            due.is("its number", Due.house(x, "loaf " + (k + 1)), k);
            due.is("it holds", x.told(0), k + 1);
            due.is("THE TEXT is empty then", x.count(3), 0);
            due.is("how many", x.count(1), k + 1);
        }
        due.is("FULL, even of an empty TEXT", x.house(), -4);
        due.is("FULL", Due.house(x, "loaf 9"), -4);
        due.is("THE TEXT stays", x.count(3), 6);
        due.is("and goes on", x.feed('9'), 7);
        due.is("FULL, even with a FAULT", Due.house(x, "9"), -4);
        due.is("the sixth holds", x.told(0), 6);
    }

    private static void promise8HouseFaults() {
        AteLeast x = new AteLeast();
        due.is("FAULT 0", Due.house(x, "x"), -10);
        due.is("no HOUSE held, none holds", x.told(0), 8);
        due.is("none came", x.count(1), 0);
        due.is("THE TEXT is empty then", x.count(3), 0);
        due.is("loaf 7", Due.house(x, "loaf 7"), 0);
        due.is("FAULT behind what is good", Due.house(x, "loaf 3;law 2;scale 9;worth 9 a>0;bake 9 a<9;"), -54);
        due.is("the one that held holds", x.told(0), 7);
        due.is("its law", x.told(1), 0);
        due.is("its scale", x.told(2), 1);
        x.eater(0, 0, 1);
        due.is("its WORTH", x.of(0, 11), 1);
        due.is("its COST", x.of(0, 6), 5);
        due.is("a FAULT has no number", Due.house(x, "loaf 6"), 1);
        due.is("nothing is left of it", x.told(2), 1);
        due.is("FAULT 100", Due.house(x, "worth 1 a=1" + "|a=1".repeat(22) + "|"), -110);
        due.is("FAULT 99", Due.house(x, "worth 1 a=1" + "|a=1".repeat(22) + "x"), -109);
        x.image();
        Due.house(x, "loaf 1");
        x.undo();
        due.is("FAULT with an older one held", Due.house(x, "loa"), -13);
        due.is("that one holds", x.told(0), 6);
        due.is("the next number", Due.house(x, "loaf 2"), 3);
    }

    /** However much was read of texts with a FAULT, nothing of it is in the next HOUSE. */
    private static void promise8HouseBehindLongFaults() {
        AteLeast x = Due.table("", Due.e(0, 0, 0));
        for (int k = 0; k < 3; k++) {
            due.is("FAULT 100", Due.house(x, "worth 1 a=1" + "|a=1".repeat(22) + "&"), -110);
        }
        due.is("a HOUSE", Due.house(x, "worth 1 a<3&!a=1;bake 6 a=0|a=1;worth 2 (a>2&!a=4)"), 0);
        int[] wants = {0, 1, 2, 0, 2, 2, 2, 2, 2};
        for (int a = 1; a <= 9; a++) {
            due.is("slice " + a, x.of(0, 10 + a), wants[a - 1]);
        }
        due.is("COST", x.of(0, 6), 6);
    }

    // ==== Promise 9: told

    private static void promise9Told() {
        AteLeast x = Due.table("loaf 99;law 5;scale 0", Due.e(0, 0, 0), Due.e(0, 0, 1));
        int[] ahead = {99, 2, 1, 20, 0, -5};
        for (int what = 0; what <= 5; what++) {
            due.is("told(" + what + ")", x.told(what), ahead[what]);
        }
        x.supper();
        int[] behind = {99, 2, 1, 99, 1, 1};
        for (int what = 0; what <= 5; what++) {
            due.is("told(" + what + ") behind a supper", x.told(what), behind[what]);
        }
        due.is("told(-1)", x.told(-1), -1);
        due.is("told(6)", x.told(6), -1);
    }

    // ==== Promise 10: supper

    private static void promise10Supper() {
        AteLeast x = new AteLeast();
        due.is("nobody is there", x.supper(), -5);
        due.is("nor again", x.supper(), -5);
        x.eater(0, 0, 0);
        due.is("one who eats nothing bakes", x.supper(), 0);
        due.is("DAY 1", x.told(4), 1);
        AteLeast all = new AteLeast();
        all.eater(0, 0, 8);
        for (int day = 1; day <= 510; day++) {
            all.supper();
        }
        due.is("DAY 510, told by the 512th call", all.told(4), 510);
        AteLeast many = table(99, "loaf 9", 9, 9);
        for (int day = 1; day <= 450; day++) {
            many.supper();
        }
        due.is("DAY 450", many.told(4), 450);
        // 9 slices less by each: at the 11th supper 9 are there
        due.is("1 ate nothing, but at the first ten suppers", many.of(1, 4), 10 * 9 - 440 * 5);
        due.is("0 ate 9 each time, and baked at these ten", many.of(0, 4), 450 * 9 - 10 * 5);
    }

    // ==== Promise 11: run

    private static void promise11Run() {
        AteLeast x = table(0, "loaf 1", 0, 0, 0, 0, 1);
        // 4 eats nothing at first, then the one slice there is
        due.is("none: THE BIN", x.run(0, 0), 0);
        due.is("none: nobody baked yet", x.run(0, 1), -5);
        due.is("none: GLAD", x.run(0, 10), 0);
        due.is("none: never", x.run(0, 20), 0);
        due.is("1: THE BAKER", x.run(1, 1), 0);
        due.is("60: GLAD of 4", x.run(60, 14), 59);
        due.is("60: GLAD of 0", x.run(60, 10), -300);
        due.is("60: how often 0", x.run(60, 20), 60);
        due.is("60: how often 4", x.run(60, 24), 0);
        due.is("59: how often 0", x.run(59, 20), 59);
        AteLeast grows = table(0, "loaf 1", 0);
        due.is("59 loaves", grows.run(59, 0), 59);
        due.is("60 loaves", grows.run(60, 0), 60);
        due.is("61", grows.run(61, 0), -1000002);
        due.is("-1", grows.run(-1, 0), -1000002);
        Due.suppers(grows, 50);
        due.is("99 at most", grows.run(60, 0), 99);
        due.is("49 on", grows.run(49, 0), 99);
        due.is("48 on", grows.run(48, 0), 98);
        due.is("GLAD then, not only what comes by them", grows.run(10, 10), -300);
        due.is("how often by these alone", grows.run(10, 20), 10);
        due.is("none: who baked last", grows.run(0, 1), 0);
        due.is("what 11: nobody", grows.run(1, 11), -1000001);
        due.is("what 21: nobody", grows.run(1, 21), -1000001);
        due.is("what 2", grows.run(1, 2), -1000001);
    }

    private static void promise11RunOfAllKinds() {
        due.is("HUNGRY: 5", Due.table("", Due.e(1, 2, 3)).run(1, 0), 20 - 5 + 8);
        due.is("CRUMB: 1, 4", Due.table("", Due.e(0, 0, 3), Due.e(2, 0, 9)).run(2, 0), 20 - 4 - 7 + 16);
        due.is("TURN: 0, 4", Due.table("", Due.e(3, 0, 4), Due.e(0, 0, 0)).run(2, 0), 20 - 4 + 16);
        due.is("BEST: 9, 9", Due.table("", Due.e(4, 0, 0)).run(2, 0), 20 - 18 + 16);
        due.is("MARTHA of v 4: 0, 0", Due.table("", Due.e(0, 0, 3), Due.e(5, 4, 9)).run(2, 0), 20 - 6 + 16);
        due.is("MARTHA of v 5: 1, 4", Due.table("", Due.e(0, 0, 3), Due.e(5, 5, 9)).run(2, 0), 20 - 4 - 7 + 16);
        AteLeast told = Due.table("", Due.e(6, 0, 9));
        told.row(0, 1, 7);
        due.is("TOLD: 0, 7", told.run(2, 0), 20 - 7 + 16);
        AteLeast image = Due.table("", Due.e(1, 2, 3), Due.e(5, 5, 1));
        image.image();
        image.undo();
        due.is("v as it was", image.of(0, 1), 2);
        due.is("also of the last one", image.of(1, 1), 5);
    }

    // ==== Promise 12: round

    private static void promise12Round() {
        due.is("nobody", new AteLeast().round(), 1);
        AteLeast same = table(20, "loaf 0", 0);
        due.is("at once", same.round(), 1);
        AteLeast first = table(8, "", 8);
        due.is("EATEN 0 never comes again", first.round(), -5);
        first.supper();
        due.is("THE BIN and all EATEN", first.round(), 1);
        first.bin(9);
        due.is("another BIN, that grows no more", first.round(), 1);
        first.hunger(0, 7);
        due.is("EATEN otherwise", first.round(), -5);
        // four DAYS by turns: each told its day's part
        AteLeast four = Due.table("loaf 1", Due.e(6, 0, 0));
        four.row(0, 3, 4);
        Due.suppers(four, 4);
        due.is("0 0 0 4, and again", four.round(), 4);
        due.is("THE BIN as it was", four.told(3), four.run(4, 0));
        // the last one alone is otherwise
        AteLeast last = Due.table("loaf 9", Due.e(0, 0, 2), Due.e(0, 0, 2), Due.e(0, 0, 2), Due.e(0, 0, 2), Due.e(0, 0, 1));
        last.supper();
        due.is("five, at once", last.round(), 1);
        last.hunger(4, 0);
        due.is("the last one EATS otherwise", last.round(), -5);
    }

    // ==== Promise 13: still

    private static void promise13Still() {
        due.is("nobody: the one row of nothing", new AteLeast().still(0), 1);
        due.is("nobody: no EATER 0", new AteLeast().still(10), -1000001);
        due.is("one: rows of 0 .. 3, not more", table(99, "worth 1 a>3", 9).still(0), 4);
        due.is("one: the first", table(99, "worth 1 a>3", 9).still(10), 0);
        due.is("one: the third slice", table(99, "worth 1 a=3", 9).still(10), 3);
        due.is("one: only by it", table(99, "worth 1 a=3", 9).still(0), 1);
        AteLeast four = table(99, "worth 0 a=1;bake 0 a=0", 9, 9, 9, 9);
        due.is("four: all rows", four.still(0), 256);
        due.is("four: of the last one", four.still(13), 0);
        due.is("four: no EATER 4", four.still(14), -1000001);
        four.eater(0, 0, 0);
        due.is("five", four.still(0), -9);
        due.is("five: of EATER 4", four.still(14), -9);
        due.is("five: no EATER 5", four.still(15), -1000001);
        // who eats most bakes: each wants a slice less than the other, but not none
        AteLeast none = table(20, "law 1;worth 1 i<9;bake 3 i<9", 0, 0);
        due.is("none: how many", none.still(0), 0);
        due.is("none: of 0", none.still(10), -5);
        due.is("none: of 1", none.still(11), -5);
        due.is("none: no EATER 2", none.still(12), -1000001);
        // what one WISHES, of which bread is no part: without bread 0 is the first
        AteLeast short1 = table(1, "bake 0 a=0", 0, 0);
        due.is("one slice: 0 takes it, 1 WISHES what it may", short1.still(0), 12);
        due.is("one slice: 0", short1.still(10), 1);
        due.is("one slice: 1", short1.still(11), 0);
        // 1 wants all three, 0 none or more as it likes: by numbers 0 3 comes ahead of 3 0
        AteLeast order = table(99, "worth 1 i=1;bake 0 a=0", 0, 0);
        due.is("EATER 0's number counts most", order.still(10), 0);
        due.is("then EATER 1's", order.still(11), 3);
        due.is("how many", order.still(0), 4);
    }

    // ==== Promise 14: allBest

    private static void promise14AllBest() {
        due.is("nobody: nothing", new AteLeast().allBest(0), 0);
        due.is("nobody: no EATER 0", new AteLeast().allBest(10), -1000001);
        due.is("one: rows of 0 .. 3, not more", table(99, "bake 0 a=0", 9).allBest(0), 3);
        due.is("one: 3", table(99, "bake 0 a=0", 9).allBest(10), 3);
        due.is("one: below 0", table(0, "", 9).allBest(0), -5);
        due.is("one: the first", table(0, "", 9).allBest(10), 0);
        AteLeast four = table(99, "bake 0 a=0", 0, 0, 0, 0);
        due.is("four: 3 each", four.allBest(0), 12);
        due.is("four: of the last one", four.allBest(13), 3);
        due.is("four: no EATER 4", four.allBest(14), -1000001);
        four.eater(0, 0, 0);
        due.is("five", four.allBest(0), -9);
        due.is("five: of EATER 4", four.allBest(14), -9);
        due.is("five: no EATER 5", four.allBest(15), -1000001);
        AteLeast order = table(3, "bake 0 a=0", 0, 0);
        due.is("of several rows", order.allBest(0), 3);
        due.is("the first by numbers: 0 3", order.allBest(10), 0);
        due.is("the first by numbers: 0 3", order.allBest(11), 3);
    }

    // ==== Promise 15: laws

    private static void promise15Laws() {
        due.is("nobody, n 60", new AteLeast().laws(60), 0);
        AteLeast x = table(99, "law 1;loaf 99;bake 9 i=0", 1, 2, 3);
        due.is("n 0: all alike, the least", x.laws(0), 0);
        due.is("n 1: 1 and 2 alike, the least", x.laws(1), 1);
        due.is("n 60", x.laws(60), 1);
        due.is("n 61", x.laws(61), -2);
        due.is("n -1", x.laws(-1), -2);
        due.is("law 2 alone", table(99, "bake 9 !i=1", 1, 2, 3).laws(1), 2);
        due.is("law 0 alone", table(99, "law 2;bake 9 !i=0", 1, 2, 3).laws(1), 0);
        // 0 bakes by law 0: for nothing on DAY 0, for 9 on DAY 1
        AteLeast later = table(99, "bake 9 i=0&d=1;bake 0 i=0", 1, 2, 3);
        due.is("one supper: alike", later.laws(1), 0);
        due.is("two suppers: 0 should not bake on DAY 1", later.laws(2), 1);
    }

    // ==== Promise 16: cook

    private static void promise16Cook() {
        AteLeast x = table(99, "", 0, 1, 1, 1, 2);
        due.is("n 0", x.cook(0, 0), 0);
        due.is("n 1", x.cook(0, 1), 5);
        due.is("n 60", x.cook(0, 60), 300);
        due.is("n 61", x.cook(0, 61), -1000002);
        due.is("n -1", x.cook(0, -1), -1000002);
        due.is("the last one", x.cook(4, 60), 0);
        due.is("no EATER 5", x.cook(5, 60), -1000001);
        due.is("no EATER -1", x.cook(-1, 60), -1000001);
        // who eats most bakes: BEST eats nothing, but a slice, if COST is 0
        AteLeast less = Due.table("worth 1 a=1;bake 9 i<9;law 1", Due.e(0, 0, 0), Due.e(4, 0, 0));
        due.is("it eats nothing and bakes not", less.run(1, 11), 0);
        due.is("COST 0, also in what BEST thinks", less.cook(1, 1), 1);
        due.is("who baked then bakes no more", less.cook(0, 1), 9);
    }

    // ==== Promise 17: thin

    private static void promise17Thin() {
        due.is("nobody, n 8", new AteLeast().thin(8), 0);
        AteLeast nine = table(50, "loaf 0", 9);
        for (int n = 0; n <= 8; n++) {
            due.is("n " + n, nine.thin(n), 9 * n);
        }
        due.is("n 9", nine.thin(9), -2);
        due.is("n -1", nine.thin(-1), -2);
        due.is("99 is enough", table(0, "loaf 0", 9, 9, 9, 6).thin(3), 99);
        due.is("99 is one too few", table(99, "loaf 0", 9, 9, 9, 7).thin(3), -5);
        due.is("but not for two suppers", table(99, "loaf 0", 9, 9, 9, 7).thin(2), 68);
        due.is("enough for the first alone", table(0, "loaf 9", 9).thin(8), 9);
        due.is("the last one may not eat less", table(0, "loaf 0", 0, 0, 0, 0, 1).thin(1), 1);
        // BEST WISHES no more than there is
        due.is("BEST has all it WISHES", Due.table("loaf 0", Due.e(4, 0, 0)).thin(8), 0);
    }

    // ==== Promise 18: pact

    private static void promise18Pact() {
        AteLeast x = table(99, "loaf 99", 0, 0, 0, 0, 0);
        x.hunger(1, 1);
        due.is("n 0", x.pact(0, 4, 0), 0);
        due.is("n 1: 4 eats 9, 0 bakes as ever", x.pact(0, 4, 1), 9);
        due.is("n 2: 0 eats 9, 2 bakes", x.pact(0, 4, 2), 9 + 9 + 5);
        due.is("the other way round", x.pact(4, 0, 2), 9 + 9 + 5);
        due.is("n 60", x.pact(0, 4, 60), 30 * 9 + 30 * 14);
        due.is("n 61", x.pact(0, 4, 61), -1000002);
        due.is("n -1", x.pact(0, 4, -1), -1000002);
        due.is("one EATER", x.pact(4, 4, 1), -1000002);
        due.is("no EATER 5", x.pact(0, 5, 1), -1000001);
        due.is("no EATER -1", x.pact(-1, 4, 1), -1000001);
        due.is("none twice", x.pact(5, 5, 1), -1000001);
        AteLeast days = table(99, "worth 1 i=0;bake 0 a=0", 0, 0);
        due.is("DAY 0: the lesser one WISHED 0", days.pact(0, 1, 1), 0);
        due.is("DAY 1: 9", days.pact(0, 1, 2), 9);
        days.supper();
        due.is("from DAY 1 on: 9", days.pact(1, 0, 1), 9);
        due.is("then 0", days.pact(1, 0, 2), 9);
    }

    // ==== Promise 19: guest

    private static void promise19Guest() {
        AteLeast x = new AteLeast();
        due.is("alone: its number is 0", x.guest(0), 0);
        for (int e = 0; e < 5; e++) {
            due.is("it eats nothing: its number is " + e, x.guest(0), e);
            due.is("HUNGER 9", x.guest(9), 0);
            due.is("HUNGER -1", x.guest(-1), -2);
            due.is("HUNGER 10", x.guest(10), -2);
            x.eater(0, 0, 1);
            x.bin(99);
        }
        due.is("there are 5 EATERS", x.guest(0), -3);
        AteLeast crumb = Due.table("law 1", Due.e(2, 0, 0), Due.e(0, 0, 9));
        crumb.supper();
        due.is("0 sees the guest, who has EATEN nothing: 1, 9, 1", crumb.guest(1), 1);
        due.is("1 and not 10: the guest eats more", crumb.guest(9), 1);
        due.is("so 0 eats least", Due.table("", Due.e(2, 0, 0), Due.e(0, 0, 9)).guest(2), 0);
        due.is("bread is short for who is behind all others", table(4, "", 2, 2).guest(9), 2);
        AteLeast best = Due.table("law 1;worth 3 a=1;bake 9 i<9", Due.e(4, 0, 0));
        due.is("alone BEST bakes, and eats", best.run(1, 10), -6);
        due.is("BEST thinks of the guest: it eats less than that and bakes not", best.guest(1), 1);
    }

    // ==== Promise 20: odds

    private static void odds(String of, AteLeast x, int eater, long above, long below) {
        due.is("odds of " + of, x.odds(eater, 0), above);
        due.is("odds of " + of + ", below the line", x.odds(eater, 1), below);
    }

    private static void promise20Odds() {
        odds("one alone", table(20, "", 5), 0, 1, 1);
        AteLeast five = table(20, "", 0, 0, 0, 0, 0);
        for (int e = 0; e < 5; e++) {
            odds("five alike, " + e, five, e, 1, 5);
        }
        five.hunger(0, 1);
        odds("never", five, 0, 0, 1);
        odds("of four, the last one", five, 4, 1, 4);
        AteLeast scale = table(99, "scale 2", 3, 2, 4);
        odds("3 by 2 is as 2 by 2", scale, 0, 1, 2);
        odds("3 by 2 is as 2 by 2", scale, 1, 1, 2);
        odds("4 by 2 is not", scale, 2, 0, 1);
        AteLeast middle = table(99, "law 2", 3, 1, 3, 9);
        odds("law 2: as much as the one who is", middle, 0, 1, 2);
        odds("law 2: as much as the one who is", middle, 2, 1, 2);
        odds("law 2: not less", middle, 1, 0, 1);
        odds("law 2: not more", middle, 3, 0, 1);
        due.is("part -1", middle.odds(0, -1), NO);
        due.is("part 2", middle.odds(0, 2), NO);
        due.is("no EATER 4", middle.odds(4, 0), NO);
        due.is("no EATER -1", middle.odds(-1, 1), NO);
        due.is("nobody", new AteLeast().odds(0, 0), NO);
    }

    // ==== Promise 21: mean

    private static void mean(String of, AteLeast x, int n, long above, long below) {
        due.is("mean of " + of, x.mean(n, 0), above);
        due.is("mean of " + of + ", below the line", x.mean(n, 1), below);
    }

    private static void promise21Mean() {
        AteLeast x = table(99, "loaf 99;bake 0 a=0", 1, 2);
        mean("3 by 2, n 1", x, 1, 3, 2);
        mean("180 by 120, n 60", x, 60, 3, 2);
        due.is("n 0", x.mean(0, 0), NO);
        due.is("n 61", x.mean(61, 0), NO);
        due.is("n -1", x.mean(-1, 1), NO);
        due.is("part -1", x.mean(1, -1), NO);
        due.is("part 2", x.mean(1, 2), NO);
        x.supper();
        mean("what comes by them, not what was", x, 1, 3, 2);
        mean("nothing comes", table(0, "loaf 0;bake 0 a=0", 1, 2, 3), 7, 0, 1);
        mean("below 0", table(0, "loaf 0;bake 4 a=0", 1, 2, 3, 4, 5), 7, -4, 5);
        mean("below 0, a whole number", table(0, "loaf 0;bake 4 a=0", 1, 2), 9, -2, 1);
        mean("one EATER, n 1", table(9, "bake 0 a=0", 9), 1, 9, 1);
        mean("what is left for 60", table(1, "loaf 0;bake 0 a=0", 9), 60, 1, 60);
        due.is("nobody", new AteLeast().mean(1, 0), NO);
        due.is("nobody, below the line", new AteLeast().mean(60, 1), NO);
    }

    // ==== Promise 22: book

    private static void promise22Book() {
        AteLeast x = new AteLeast();
        due.is("an empty one is empty then", x.book(-1), 0);
        due.is("-2", x.book(-2), -2);
        due.is("100", x.book(100), -2);
        due.is("0", x.book(0), 1);
        due.is("99", x.book(99), 2);
        for (int k = 3; k <= 12; k++) {
            due.is("how many", x.book(20), k);
        }
        due.is("a 13th", x.book(20), -4);
        due.is("BAD, and FULL", x.book(100), -2);
        due.is("twelve", x.count(2), 12);
        due.is("a full one is empty then", x.book(-1), 0);
        due.is("none", x.count(2), 0);
        due.is("the first", x.book(20), 1);
    }

    // ==== Promise 23: looked

    private static void promise23Looked() {
        AteLeast x = table(20, "loaf 1", 0);
        due.is("an empty BOOK", x.looked(), -5);
        for (int k = 1; k <= 12; k++) {
            x.book(20 + k);
        }
        due.is("twelve as it is", x.looked(), -5);
        x.bin(21);
        due.is("the first is otherwise", x.looked(), 0);
        x.bin(20);
        x.book(-1);
        for (int k = 1; k <= 12; k++) {
            x.book(k == 12 ? 33 : 20 + k);
        }
        due.is("the last is otherwise", x.looked(), 11);
        x.book(-1);
        due.is("empty again", x.looked(), -5);
        AteLeast full = table(98, "loaf 1", 0);
        full.book(99);
        full.book(99);
        due.is("99 at most", full.looked(), -5);
        full.book(98);
        due.is("the third is otherwise", full.looked(), 2);
        AteLeast nobody = new AteLeast();
        nobody.book(28);
        due.is("nobody bakes", nobody.looked(), 0);
    }

    // ==== Promise 24: judge

    private static void promise24Judge() {
        AteLeast x = table(20, "loaf 0;bake 0 a=0", 3, 1, 2);
        x.supper();
        x.tape(0, 2, 60);
        for (int e = 0; e < 3; e++) {
            x.item(0, 57 + e, x.of(e, 4));
        }
        due.is("up to the end of a row of 60", x.judge(0, 57), -5);
        due.is("the first is otherwise", x.judge(0, 56), 0);
        due.is("otherwise, ahead of the end", x.judge(0, 58), 0);
        x.item(0, 58, 3);
        due.is("the second is otherwise", x.judge(0, 57), 1);
        x.item(0, 59, 1);
        due.is("two looked at, then it ends", x.judge(0, 58), 102);
        x.item(0, 59, 3);
        due.is("one looked at, then it ends", x.judge(0, 59), 101);
        due.is("none: the place behind the last", x.judge(0, 60), 100);
        due.is("none: far beyond", x.judge(0, MAX), 100);
        due.is("none: a place so far that adding wraps", x.judge(0, MAX - 1), 100);
        due.is("none: below 0", x.judge(0, -1), 100);
        due.is("none: so that the next ones would be there", x.judge(0, -2), 100);
        due.is("none: far below 0", x.judge(0, MIN), 100);
        due.is("holds nothing", x.judge(1, 0), 100);
        due.is("holds nothing, place below 0", x.judge(1, -1), 100);
        x.tape(1, 2, 0);
        due.is("a row of none", x.judge(1, 0), 100);
        for (int sort : new int[] {0, 1, 3, 4}) {
            x.tape(1, sort, 9);
            due.is("sort " + sort, x.judge(1, 0), -12);
            x.tape(1, sort, 0);
            due.is("sort " + sort + ", of none", x.judge(1, 0), -12);
        }
        due.is("TAPE 5", x.judge(5, 0), 100);
        due.is("TAPE 6", x.judge(6, 0), -1);
        due.is("TAPE -1", x.judge(-1, 0), -1);
        AteLeast nobody = new AteLeast();
        nobody.tape(0, 2, 1);
        due.is("none to look at", nobody.judge(0, 0), -5);
        due.is("none to look at, where it ends", nobody.judge(0, 1), -5);
        due.is("none to look at, nothing held", nobody.judge(1, 0), -5);
        AteLeast below = table(20, "", 0);
        below.supper();
        below.tape(0, 2, 1);
        below.item(0, 0, -5 + (1L << 32));
        due.is("GLAD below 0, lowest bits", below.judge(0, 0), -5);
        below.item(0, 0, 5);
        due.is("its sign is otherwise", below.judge(0, 0), 0);
    }

    // ==== Promises 25 and 26: image, undo

    private static void promise25And26Image() {
        AteLeast x = new AteLeast();
        due.is("there is none", x.undo(), -3);
        due.is("of nobody", x.image(), 0);
        due.is("at once", x.undo(), 0);
        for (int e = 0; e < 5; e++) {
            x.eater(6, e, e);
        }
        x.bin(0);
        x.book(1);
        x.supper();
        due.is("nobody", x.undo(), 0);
        due.is("nobody", x.count(0), 0);
        due.is("THE BIN", x.told(3), 20);
        due.is("DAY", x.told(4), 0);
        due.is("THE BAKER: nobody", x.told(5), -5);
        due.is("an empty BOOK", x.count(2), 0);
        for (int e = 0; e < 5; e++) {
            x.eater(0, 0, e);
        }
        due.is("of five", x.image(), 5);
        x.supper();
        due.is("the newest IMAGE", x.undo(), 5);
        due.is("THE BAKER: nobody yet", x.told(5), -5);
        x.supper();
        due.is("again and again", x.undo(), 5);
        due.is("again and again", x.undo(), 5);
        due.is("EATEN", x.of(4, 3), 0);
        due.is("GLAD", x.of(4, 4), 0);
        AteLeast full = new AteLeast();
        for (int k = 0; k < 12; k++) {
            full.book(20);
        }
        full.image();
        full.book(-1);
        full.undo();
        due.is("a full BOOK", full.book(20), -4);
        due.is("its rows", full.looked(), -5);
    }

    /** THE TEXT, the HOUSES themselves, THE TRACE and the TAPES are no part of THE IMAGE. */
    private static void promise26WhatIsNoPart() {
        AteLeast x = table(20, "", 1);
        x.image();
        Due.house(x, "loaf 1");
        Due.house(x, "loaf 2");
        x.feed('l');
        x.tape(3, 2, 2);
        x.item(3, 1, 6);
        x.act(0, 1, 1);
        x.undo();
        due.is("no HOUSE holds", x.told(0), 8);
        due.is("there are two", x.count(1), 2);
        due.is("THE TEXT", x.count(3), 1);
        due.is("a TAPE", x.read(3, 1), 6);
        due.is("THE TRACE", x.trace(1), 10);
        due.is("THE TEXT goes on", Due.house(x, "oaf 3"), 2);
        due.is("it holds", x.told(0), 3);
        x.image();
        for (int k = 3; k < 6; k++) {
            Due.house(x, "loaf " + (k + 1));
        }
        x.undo();
        due.is("the third holds", x.told(0), 3);
        due.is("FULL all the same", Due.house(x, "loaf 9"), -4);
    }

    // ==== Promise 27: act, which wraps

    private static void act(String of, int[] eater, int number, int act, int x, int want) {
        AteLeast a = new AteLeast();
        for (int k = 0; k < number; k++) {
            a.eater(0, 0, 0);
        }
        a.eater(eater[0], eater[1], 0);
        due.is(of, a.act(number, act, x), want);
    }

    private static void promise27ActWraps() {
        act("x + i", Due.e(0, 0, 0), 4, 0, MAX, MIN + 3);
        act("x + i", Due.e(0, 0, 0), 4, 0, MAX - 4, MAX);
        act("eats(x) - v", Due.e(0, 9, 0), 0, 1, MIN, MAX - 8);
        act("eats(x) - v", Due.e(0, 9, 0), 0, 1, MIN + 9, MIN);
        act("bakes(x) * 2", Due.e(0, 0, 0), 0, 2, 1 << 30, MIN);
        act("bakes(x) * 2", Due.e(0, 0, 0), 0, 2, MAX, -2);
        act("bakes(x) * 2", Due.e(0, 0, 0), 0, 2, MIN, 0);
        act("super.bakes(x) ^ 6", Due.e(1, 1, 0), 0, 1, MIN, MAX ^ 6);
        act("super.bakes(x) ^ 6", Due.e(1, 0, 0), 0, 1, -1, ~6);
        act("super.eats(x * 3)", Due.e(2, 0, 0), 0, 0, MAX, MAX - 2);
        act("super.eats(x * 3)", Due.e(2, 0, 0), 0, 0, MIN, MIN);
        act("super.eats(x * 3)", Due.e(2, 0, 0), 1, 0, 715827883, MIN + 2);
        act("super.tells(x) + bakes(1)", Due.e(3, 0, 0), 1, 2, (1 << 30) - 2, MIN);
        act("-super.eats(x)", Due.e(4, 0, 0), 0, 0, MIN, MIN);
        act("-super.eats(x)", Due.e(4, 0, 0), 1, 0, MAX, MIN);
        act("super.bakes(x + 1)", Due.e(4, 0, 0), 0, 1, MAX, MIN ^ 6);
        act("super.tells(x - i)", Due.e(5, 0, 0), 1, 2, MIN, -4);
        act("super.bakes(x) + super.eats(2)", Due.e(6, 0, 0), 1, 1, MAX - 1, MIN + 2);
        act("super.eats(x) ^ v", Due.e(6, 9, 0), 1, 0, MAX, MIN ^ 9);
        AteLeast x = table(20, "", 0);
        due.is("act -1", x.act(0, -1, 5), 0);
        due.is("act 3", x.act(0, 3, 5), 0);
        due.is("no EATER 1", x.act(1, 0, 5), 0);
        due.is("no EATER -1", x.act(-1, 0, 5), 0);
        due.is("0 too, if it is so", x.act(0, 0, 0), 0);
        due.is("with a TRACE", x.trace(0), 10);
    }

    // ==== Promise 28: trace

    private static void promise28Trace() {
        AteLeast x = Due.table("", Due.e(6, 0, 0));
        due.is("no act yet", x.trace(0), -1);
        x.act(0, 2, 1);
        int[] bodies = {40, 12, 70, 11, 71, 10, 10, 70, 11, 71, 10, 10};
        for (int k = 0; k < 12; k++) {
            due.is("body " + k, x.trace(k), bodies[k]);
        }
        for (int k : new int[] {-1, 12, 19, 20, MIN, MAX}) {
            due.is("trace(" + k + ")", x.trace(k), -1);
        }
        x.act(0, 0, 1);
        due.is("the latest act's second", x.trace(1), 10);
        due.is("it had two", x.trace(2), -1);
        x.act(0, 3, 1);
        due.is("no such act, no TRACE then", x.trace(0), -1);
        due.is("no body ran", x.count(4), 0);
        x.act(0, 0, 1);
        x.act(1, 0, 1);
        due.is("no such EATER, no TRACE then", x.trace(0), -1);
        due.is("no body ran", x.count(4), 0);
    }

    // ==== Promise 29: taken

    private static void promise29Taken() {
        String[] under = {"0", "01", "02", "03", "014", "025", "036"};
        for (int kind = 0; kind <= 6; kind++) {
            AteLeast x = Due.table("", Due.e(0, 0, 0), Due.e(kind, 0, 0));
            for (int k = 0; k <= 6; k++) {
                due.is("KIND " + kind + " taken for " + k, x.taken(1, k), under[kind].indexOf('0' + k) >= 0 ? kind : -12);
            }
            due.is("k -1", x.taken(1, -1), -2);
            due.is("k 7", x.taken(1, 7), -2);
            due.is("no EATER 2", x.taken(2, 0), -11);
            due.is("no EATER -1", x.taken(-1, 6), -11);
        }
    }

    // ==== Promise 30: count

    private static void promise30Count() {
        AteLeast x = new AteLeast();
        for (int e = 1; e <= 5; e++) {
            x.eater(6, 0, 0);
            due.is("EATERS", x.count(0), e);
        }
        for (int h = 1; h <= 6; h++) {
            Due.house(x, "law 1");
            due.is("HOUSES", x.count(1), h);
        }
        for (int r = 1; r <= 12; r++) {
            x.book(0);
            due.is("rows", x.count(2), r);
        }
        for (int b = 1; b <= 100; b++) {
            x.feed('x');
            due.is("bytes", x.count(3), b);
        }
        x.act(0, 2, 0);
        due.is("bodies", x.count(4), 12);
        x.eater(0, 0, 0);
        x.book(0);
        x.feed('x');
        x.house();
        int[] most = {5, 6, 12, 100, 12};
        for (int what = 0; what <= 4; what++) {
            due.is("at most", x.count(what), most[what]);
        }
        due.is("count(-1)", x.count(-1), -2);
        due.is("count(5)", x.count(5), -2);
    }

    // ==== Promise 31: tape

    private static void promise31Tape() {
        AteLeast x = new AteLeast();
        for (int sort = 0; sort <= 4; sort++) {
            for (int n : new int[] {0, 1, 59, 60}) {
                due.is("sort " + sort + " of " + n, x.tape(sort, sort, n), 1);
                due.is("item 0", x.read(sort, 0), n == 0 ? NO : 0);
                due.is("the last", x.read(sort, n - 1), n == 0 ? NO : 0);
                due.is("behind it", x.read(sort, n), NO);
                due.is("put", x.item(sort, n - 1, 1), n == 0 ? -13 : 1);
            }
            due.is("all 0 anew", x.tape(sort, sort, 60), 1);
            for (int i = 0; i < 60; i += 59) {
                due.is("all 0 anew", x.read(sort, i), 0);
            }
        }
        due.is("61", x.tape(0, 0, 61), -2);
        due.is("-1", x.tape(0, 0, -1), -14);
        due.is("sort 5", x.tape(0, 5, 1), -2);
        due.is("sort -2", x.tape(0, -2, 1), -2);
        due.is("as it was", x.read(0, 59), 0);
        for (int n : new int[] {0, 60, 61, -1, MIN, MAX}) {
            due.is("sort -1, n " + n, x.tape(1, -1, n), 1);
            due.is("holds nothing", x.item(1, 0, 0), -11);
        }
        due.is("TAPE 5", x.tape(5, 0, 1), 1);
        due.is("TAPE 6", x.tape(6, 0, 1), -1);
        due.is("TAPE -1", x.tape(-1, -1, 1), -1);
    }

    // ==== Promise 32: item

    private static void promise32Item() {
        long[][] bytes = {{127, 127}, {128, -128}, {255, -1}, {256, 0}, {-128, -128}, {-129, 127}, {Long.MIN_VALUE, 0}};
        long[][] shorts = {{32767, 32767}, {32768, -32768}, {65535, -1}, {65536, 0}, {-32769, 32767}, {Long.MAX_VALUE, -1}};
        long[][] ints = {{MAX, MAX}, {MAX + 1L, MIN}, {(1L << 32) - 1, -1}, {1L << 32, 0}, {MIN - 1L, MAX}, {NO, 0}};
        long[][] longs = {{Long.MAX_VALUE, Long.MAX_VALUE}, {Long.MIN_VALUE, Long.MIN_VALUE}, {-1, -1}, {1L << 32, 1L << 32}};
        long[][] booleans = {{0, 0}, {1, 1}, {2, 1}, {-1, 1}, {1L << 32, 1}, {Long.MIN_VALUE, 1}};
        long[][][] all = {bytes, shorts, ints, longs, booleans};
        AteLeast x = new AteLeast();
        for (int sort = 0; sort <= 4; sort++) {
            x.tape(sort, sort, 60);
            for (long[] v : all[sort]) {
                due.is("item 59", x.item(sort, 59, v[0]), 1);
                due.is(v[0] + " of sort " + sort, x.read(sort, 59), v[1]);
                due.is("item 0", x.item(sort, 0, v[0]), 1);
                due.is(v[0] + " of sort " + sort, x.read(sort, 0), v[1]);
            }
            due.is("place 60", x.item(sort, 60, 0), -13);
            due.is("place -1", x.item(sort, -1, 0), -13);
            due.is("the one beside", x.read(sort, 58), 0);
        }
        due.is("holds nothing", x.item(5, 0, 0), -11);
        due.is("TAPE 6", x.item(6, 0, 0), -1);
        due.is("TAPE -1", x.item(-1, 0, 0), -1);
        x.tape(5, 3, 0);
        due.is("a row of none", x.item(5, 0, 0), -13);
    }

    // ==== Promise 33: read

    private static void promise33Read() {
        AteLeast x = new AteLeast();
        x.tape(0, 3, 60);
        x.item(0, 0, 4);
        x.item(0, 59, Long.MIN_VALUE + 1);
        due.is("the first", x.read(0, 0), 4);
        due.is("the last", x.read(0, 59), NO + 1);
        due.is("place -1", x.read(0, -1), NO);
        due.is("place 60", x.read(0, 60), NO);
        due.is("nothing there", x.read(5, 0), NO);
        due.is("TAPE 6", x.read(6, 0), NO);
        due.is("TAPE -1", x.read(-1, 0), NO);
        x.tape(0, -1, 60);
        due.is("nothing there any more", x.read(0, 0), NO);
        x.tape(0, 3, 2);
        due.is("all 0", x.read(0, 0), 0);
        due.is("a shorter row", x.read(0, 2), NO);
    }

    // ==== Promise 34: shift

    private static AteLeast twoRows() {
        AteLeast x = new AteLeast();
        x.tape(0, 3, 5);
        x.tape(5, 3, 60);
        for (int k = 0; k < 5; k++) {
            x.item(0, k, k + 1);
        }
        return x;
    }

    private static void row(String of, AteLeast x, int tape, int from, int... wants) {
        for (int k = 0; k < wants.length; k++) {
            due.is("item " + (from + k) + " " + of, x.read(tape, from + k), wants[k]);
        }
    }

    private static void promise34Shift() {
        AteLeast x = twoRows();
        due.is("all to the end of the other one", x.shift(0, 0, 5, 55, 5), 5);
        row("shifted", x, 5, 54, 0, 1, 2, 3, 4, 5);
        due.is("one too far", x.shift(0, 0, 5, 56, 5), -13);
        due.is("one too many", x.shift(0, 0, 5, 0, 6), -13);
        due.is("from one too far", x.shift(0, 1, 5, 0, 5), -13);
        due.is("i -1", x.shift(0, -1, 5, 0, 1), -13);
        due.is("j -1", x.shift(0, 0, 5, -1, 1), -13);
        due.is("n -1", x.shift(0, 0, 5, 0, -1), -13);
        due.is("sums that wrap", x.shift(0, MAX, 5, 0, MAX), -13);
        due.is("sums that wrap", x.shift(0, 1, 5, MAX, MAX), -13);
        due.is("sums that wrap", x.shift(0, MIN, 5, 0, MIN), -13);
        row("as it was", x, 5, 0, 0, 0, 0);
        due.is("none, from the end to the end", x.shift(0, 5, 5, 60, 0), 0);
        due.is("none, from beyond the end", x.shift(0, 6, 5, 0, 0), -13);
        due.is("none, to beyond the end", x.shift(0, 0, 5, 61, 0), -13);
        due.is("none, from below 0", x.shift(0, -1, 5, 0, 0), -13);
        due.is("the last alone", x.shift(0, 4, 5, 0, 1), 1);
        row("shifted", x, 5, 0, 5, 0);
        AteLeast same = twoRows();
        due.is("on, as they all were before", same.shift(0, 0, 0, 1, 4), 4);
        row("shifted on", same, 0, 0, 1, 1, 2, 3, 4);
        due.is("back, as they all were before", same.shift(0, 1, 0, 0, 4), 4);
        row("shifted back", same, 0, 0, 1, 2, 3, 4, 4);
        due.is("to where they are", same.shift(0, 0, 0, 0, 5), 5);
        row("as it was", same, 0, 0, 1, 2, 3, 4, 4);
        for (int sort = 0; sort <= 4; sort++) {
            same.tape(1, sort, 2);
            due.is("longs to sort " + sort, same.shift(0, 0, 1, 0, 1), sort == 3 ? 1 : -12);
            due.is("of none", same.shift(0, 0, 1, 0, 0), sort == 3 ? 0 : -12);
        }
        due.is("nothing is there", same.shift(0, 0, 2, 0, 0), -11);
        due.is("from nothing", same.shift(2, 0, 0, 0, 0), -11);
        due.is("TAPE 6", same.shift(6, 0, 0, 0, 0), -1);
        due.is("to TAPE -1", same.shift(0, 0, -1, 0, 0), -1);
        same.tape(3, 3, 0);
        due.is("a row of none on itself", same.shift(3, 0, 3, 0, 0), 0);
        due.is("one of none", same.shift(3, 0, 3, 0, 1), -13);
    }
}
