/** Promises 10 to 12: suppers one by one, runs of them, where it comes round. */
public final class SuppersTest {
    private static final Due due = new Due("SuppersTest");

    public static void main(String[] args) {
        nobody();
        eating();
        laws();
        scales();
        glad();
        asSupperBegins();
        run();
        runChangesNothing();
        round();
        due.end();
    }

    private static void nobody() {
        AteLeast x = new AteLeast();
        due.is("supper of nobody", x.supper(), -5);
        due.is("no day", x.told(4), 0);
        due.is("no bread", x.told(3), 20);
        due.is("run of nobody", x.run(60, 0), 20);
        due.is("baker of nobody", x.run(60, 1), -5);
        due.is("round of nobody", x.round(), 1);
    }

    private static void eating() {
        AteLeast x = Due.table("loaf 3", Due.e(0, 0, 4), Due.e(0, 0, 9), Due.e(0, 0, 9), Due.e(0, 0, 1));
        due.is("the last one ate nothing yet, but 1 was left", x.supper(), 3);
        due.is("left by numbers", x.of(0, 3), 4);
        due.is("left by numbers", x.of(1, 3), 9);
        due.is("left by numbers", x.of(2, 3), 7);
        due.is("left by numbers", x.of(3, 3), 0);
        due.is("bin", x.told(3), 3);
        due.is("the first of those who ate nothing", x.supper(), 1);
        due.is("ate what was there", x.of(0, 3), 3);
        due.is("day", x.told(4), 2);
        AteLeast y = Due.table("loaf 50", Due.e(0, 0, 1));
        Due.suppers(y, 2);
        due.is("99 at most", y.told(3), 99);
        y.bin(99);
        y.supper();
        due.is("99 at most", y.told(3), 99);
    }

    /** Eaters of those hungers, who find enough bread. */
    private static AteLeast table(String text, int... hungers) {
        AteLeast x = Due.table(text);
        for (int hunger : hungers) {
            x.eater(0, 0, hunger);
        }
        x.bin(99);
        return x;
    }

    private static void laws() {
        due.is("least", table("law 0", 3, 1, 4, 1, 5).supper(), 1);
        due.is("most", table("law 1", 3, 5, 4, 1, 5).supper(), 1);
        due.is("middle of five", table("law 2", 3, 1, 4, 2, 5).supper(), 0);
        due.is("middle of four", table("law 2", 3, 1, 4, 2).supper(), 0);
        due.is("middle of three", table("law 2", 3, 1, 2).supper(), 2);
        due.is("middle of two", table("law 2", 3, 4).supper(), 1);
        due.is("middle of two", table("law 2", 4, 3).supper(), 0);
        due.is("middle of one", table("law 2", 4).supper(), 0);
        due.is("middle of alike ones", table("law 2", 4, 4, 4, 4).supper(), 2);
        due.is("middle, some alike", table("law 2", 7, 4, 4, 1, 4).supper(), 2);
        due.is("law 3 is 0", table("law 3", 7, 4, 9).supper(), 1);
        due.is("law 4 is 1", table("law 4", 7, 4, 9).supper(), 2);
        due.is("without a house", table("", 7, 4, 9).supper(), 1);
    }

    private static void scales() {
        due.is("least by 3", table("scale 3", 6, 5, 4, 3, 8).supper(), 1);
        due.is("most by 3", table("law 1;scale 3", 5, 6, 8, 7).supper(), 1);
        due.is("middle by 4", table("law 2;scale 4", 7, 3, 4).supper(), 0);
        due.is("all alike by 10", table("scale 10", 7, 3, 4).supper(), 0);
        due.is("scale 0 is 1", table("scale 0", 7, 3, 4).supper(), 1);
    }

    private static void glad() {
        AteLeast x = Due.table("worth 9 a<3;worth 4 a<6;bake 20 a<2;bake 30 a>1;bake 1 i=1",
            Due.e(0, 0, 4), Due.e(0, 0, 1), Due.e(0, 0, 9));
        due.is("baker", x.supper(), 1);
        due.is("two of 13, two of 4", x.of(0, 4), 34);
        due.is("one of 13, less 21", x.of(1, 4), -8);
        due.is("two of 13, three of 4, four of 0", x.of(2, 4), 38);
        x.hunger(1, 2);
        x.supper();
        due.is("that more", x.of(0, 4), 68);
        due.is("26 less 31", x.of(1, 4), -13);
        AteLeast five = Due.table("", Due.e(0, 0, 2), Due.e(0, 0, 3));
        five.supper();
        due.is("2 less 5", five.of(0, 4), -3);
        due.is("3", five.of(1, 4), 3);
    }

    private static void asSupperBegins() {
        // The bin is 20 as it begins and lower than 10 behind the eating; the day is 0.
        AteLeast x = Due.table("loaf 0;worth 1 b=2&d=0;bake 3 b=2&d=0", Due.e(0, 0, 7), Due.e(0, 0, 8));
        x.supper();
        due.is("7 less 3", x.of(0, 4), 4);
        due.is("8", x.of(1, 4), 8);
        x.supper();
        due.is("nothing of a lower bin", x.of(0, 4), 4);
        due.is("nothing of a lower bin", x.of(1, 4), 8);
    }

    private static void run() {
        AteLeast x = Due.table("loaf 6;worth 1 a<9;bake 5 i<9", Due.e(3, 0, 4), Due.e(0, 0, 3), Due.e(3, 0, 2));
        // Eaten by days: 0 3 2, 4 3 2, 4 3 0, 0 3 2 ..; bakers 0, 2, 2, 0 ..
        int[] bins = {20, 21, 18, 17, 18};
        int[] bakers = {-5, 0, 2, 2, 0};
        int[] glad = {0, -5, -1, 3, -2};
        int[] times = {0, 0, 1, 2, 2};
        for (int n = 0; n < 5; n++) {
            due.is("bin behind " + n, x.run(n, 0), bins[n]);
            due.is("baker behind " + n, x.run(n, 1), bakers[n]);
            due.is("glad of 0 behind " + n, x.run(n, 10), glad[n]);
            due.is("times of 2 behind " + n, x.run(n, 22), times[n]);
            due.is("times of 1 behind " + n, x.run(n, 21), 0);
        }
        x.supper();
        due.is("goes on from how all is", x.run(3, 10), -2);
        due.is("how often by these", x.run(3, 20), 1);
        due.is("baker behind none", x.run(0, 1), 0);
        int[] bad = {-1, 2, 9, 13, 19, 23, 24, 30, Integer.MIN_VALUE, Integer.MAX_VALUE};
        for (int what : bad) {
            due.is("run(1, " + what + ")", x.run(1, what), -1000001);
            due.is("NONE ahead of BAD", x.run(61, what), -1000001);
        }
        int[] whats = {0, 1, 10, 12, 20, 22};
        for (int what : whats) {
            due.is("run(-1, " + what + ")", x.run(-1, what), -1000002);
            due.is("run(61, " + what + ")", x.run(61, what), -1000002);
        }
    }

    private static void runChangesNothing() {
        AteLeast x = Due.table("law 1;scale 2", Due.e(4, 2, 4), Due.e(2, 0, 3), Due.e(6, 0, 2), Due.e(3, 1, 7));
        AteLeast y = Due.table("law 1;scale 2", Due.e(4, 2, 4), Due.e(2, 0, 3), Due.e(6, 0, 2), Due.e(3, 1, 7));
        // 41 calls a day, and 512 are promised
        for (int day = 0; day < 12; day++) {
            askAll(x);
            due.is("supper", x.supper(), y.supper());
            for (int e = 0; e < 4; e++) {
                for (int what = 0; what < 7; what++) {
                    due.is("of(" + e + ", " + what + ")", x.of(e, what), y.of(e, what));
                }
            }
            due.is("bin", x.told(3), y.told(3));
            due.is("day", x.told(4), day + 1);
        }
    }

    private static void askAll(AteLeast x) {
        x.run(60, 0);
        x.run(60, 20);
        x.round();
        x.still(0);
        x.allBest(10);
        x.laws(5);
        x.cook(1, 5);
        x.thin(3);
        x.pact(0, 2, 5);
        x.guest(3);
    }

    private static void round() {
        due.is("8 eaten, 8 baked, but nothing eaten before", Due.table("", Due.e(0, 0, 8)).round(), -5);
        AteLeast x = Due.table("", Due.e(0, 0, 8));
        x.supper();
        due.is("then at once", x.round(), 1);
        due.is("nothing wished, none baked", Due.table("loaf 0", Due.e(0, 0, 0)).round(), 1);
        AteLeast y = Due.table("loaf 5", Due.e(3, 0, 7), Due.e(0, 0, 1), Due.e(0, 0, 0));
        // 0 1 0, 7 1 0, 7 1 0 by days: 16 eaten and 15 baked, till less is there.
        y.supper();
        due.is("the bin falls by turns", y.round(), -5);
        AteLeast z = Due.table("loaf 4", Due.e(3, 0, 6), Due.e(3, 0, 2));
        z.supper();
        due.is("0 2, 6 0, and again", z.round(), 2);
        AteLeast told = Due.table("loaf 3", Due.e(6, 0, 0));
        told.row(0, 0, 3);
        told.row(0, 1, 4);
        told.row(0, 2, 2);
        told.row(0, 3, 3);
        told.supper();
        due.is("the bin is as now, but not what was eaten; then both", told.round(), 3);
        AteLeast bins = Due.table("loaf 0", Due.e(0, 0, 1));
        bins.supper();
        due.is("what was eaten, but not the bin", bins.round(), -5);
        // Grows by 1 each day up to 99, and back never.
        AteLeast grows = Due.table("loaf 2", Due.e(0, 0, 1));
        grows.supper();
        due.is("grows", grows.round(), -5);
        grows.bin(99);
        due.is("full", grows.round(), 1);
        roundLate();
    }

    /** BEST ones who eat when the bin is high, one who is told and one by turns: long ways round. */
    private static void roundLate() {
        AteLeast x = Due.table("loaf 3;worth 1 b>7;bake 0 i<9", Due.e(6, 0, 1), Due.e(4, 0, 2), Due.e(4, 0, 0),
            Due.e(3, 0, 1), Due.e(0, 0, 0));
        x.row(0, 2, 2);
        x.row(0, 3, 2);
        Due.suppers(x, 80);
        due.is("60 are looked at", x.round(), 60);
        due.is("one by one", stepsRound(x), 60);
        AteLeast y = Due.table("loaf 3;worth 1 b>4;bake 0 i<9", Due.e(3, 0, 1), Due.e(4, 0, 1), Due.e(6, 0, 2));
        y.row(2, 0, 1);
        y.row(2, 2, 2);
        y.row(2, 3, 1);
        Due.suppers(y, 80);
        due.is("61 are not", y.round(), -5);
        due.is("one by one", stepsRound(y), 61);
    }

    private static int stepsRound(AteLeast x) {
        int bin = x.told(3);
        int[] eaten = new int[x.count(0)];
        for (int e = 0; e < eaten.length; e++) {
            eaten[e] = x.of(e, 3);
        }
        for (int n = 1; n < 200; n++) {
            x.supper();
            boolean same = x.told(3) == bin;
            for (int e = 0; e < eaten.length && same; e++) {
                same = x.of(e, 3) == eaten[e];
            }
            if (same) {
                return n;
            }
        }
        return -5;
    }
}
