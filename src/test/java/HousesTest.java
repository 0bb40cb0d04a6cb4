/** Promises 7 to 9: the text, houses and their faults, what a house tells. */
public final class HousesTest {
    private static final Due due = new Due("HousesTest");

    public static void main(String[] args) {
        feed();
        goodTexts();
        faults();
        depths();
        clauses();
        everyPrefix();
        houses();
        told();
        tests();
        due.end();
    }

    private static void feed() {
        AteLeast x = new AteLeast();
        due.is("-1", x.feed(-1), -2);
        due.is("128", x.feed(128), -2);
        due.is("0", x.feed(0), 1);
        due.is("127", x.feed(127), 2);
        for (int k = 3; k <= 100; k++) {
            due.is("byte", x.feed('a'), k);
        }
        due.is("101st", x.feed('a'), -4);
        due.is("BAD ahead of FULL", x.feed(128), -2);
        due.is("bytes", x.count(3), 100);
        due.is("fault at 0", x.house(), -10);
        due.is("empty then", x.count(3), 0);
        due.is("first again", x.feed('w'), 1);
    }

    private static void good(String text) {
        due.is("house '" + text + "'", Due.house(new AteLeast(), text), 0);
    }

    private static void fault(String text, int place) {
        due.is("house '" + text + "'", Due.house(new AteLeast(), text), -10 - place);
    }

    private static void goodTexts() {
        good("loaf 1");
        good("loaf 12");
        good("law 0");
        good("scale 99");
        good("worth 0 i=0");
        good("bake 99 h>99");
        good("worth 1 a<1|b=2&!(d>3|k=4)&!!h=5");
        good("worth 1 ((((a=1))))");
        good("worth 1 !!!!a=1");
        good("worth 1 (!(!a=1))|((((b=2))))");
        good("loaf 1;law 1;scale 1;worth 1 a=1;bake 1 a=1;loaf 2;law 2;scale 2;worth 2 a=2;bake 2 a=2");
        // 100 bytes: 8 of head, 23 tests of three with a sign between.
        StringBuilder full = new StringBuilder("worth 1 a=1");
        while (full.length() + 4 < 100) {
            full.append("|a=1");
        }
        full.append('1');
        due.is("length", full.length(), 100);
        good(full.toString());
    }

    private static void faults() {
        fault("", 0);
        fault(" ", 0);
        fault("x", 0);
        fault("Law 1", 0);
        fault(";", 0);
        fault("l", 1);
        fault("lx", 1);
        fault("lo", 2);
        fault("loa", 3);
        fault("lob", 2);
        fault("la", 2);
        fault("lax", 2);
        fault("low 1", 2);
        fault("laaf 1", 2);
        fault("wort", 4);
        fault("worthy", 5);
        fault("wake 1 a=1", 1);
        fault("bale 1 a=1", 2);
        fault("scale", 5);
        fault("scales", 5);
        fault("scale ", 6);
        fault("scale  1", 6);
        fault("scale 123", 8);
        fault("scale 1 ", 7);
        fault("law 1 a=1", 5);
        fault("law 12 ", 6);
        fault("law -1", 4);
        fault("loaf 1;", 7);
        fault("loaf 1;;", 7);
        fault("loaf 1; law 1", 7);
        fault("worth 1", 7);
        fault("worth 1;", 7);
        fault("worth 123 a=1", 8);
        fault("worth 1 ", 8);
        fault("worth 1  a=1", 8);
        fault("worth 1 x=1", 8);
        fault("worth 1 a", 9);
        fault("worth 1 a!1", 9);
        fault("worth 1 a=", 10);
        fault("worth 1 a=b", 10);
        fault("worth 1 a<=1", 10);
        fault("worth 1 a=123", 12);
        fault("worth 1 a=1 ", 11);
        fault("worth 1 a=1)", 11);
        fault("worth 1 a=1|", 12);
        fault("worth 1 a=1||a=1", 12);
        fault("worth 1 a=1&", 12);
        fault("worth 1 a=1&|", 12);
        fault("worth 1 |a=1", 8);
        fault("worth 1 (a=1", 12);
        fault("worth 1 (a=1;", 12);
        fault("worth 1 ()", 9);
        fault("worth 1 (a=1)a", 13);
        fault("worth 1 !", 9);
        fault("worth 1 !)", 9);
        fault("worth 1 a=1!", 11);
        fault("worth 1 a=1;loaf", 16);
        StringBuilder full = new StringBuilder("worth 1 a=1");
        while (full.length() < 99) {
            full.append("|a=1");
        }
        due.is("length", full.length(), 99);
        fault(full + "|", 100);
    }

    private static void depths() {
        fault("worth 1 (((((a=1)))))", 12);
        fault("worth 1 !!!!!a=1", 12);
        fault("worth 1 !(!(!a=1))", 12);
        fault("worth 1 ((((!a=1))))", 12);
        fault("worth 1 !!!!(a=1)", 12);
        fault("worth 1 a=1&((((a=1|(a=1)))))", 20);
        good("worth 1 !(!(a=1))&!(!(a=1))");
        good("bake 1 ((((a=1))))&((((b=1))))");
        fault("bake 1 (((((", 11);
    }

    private static void clauses() {
        String nine = "law 1;law 1;law 1;law 1;law 1;law 1;law 1;law 1;law 1";
        good(nine);
        good(nine + ";law 1");
        fault(nine + ";law 1;", 59);
        fault(nine + ";law 1;law 1", 59);
        fault(nine + ";worth 1 a=1;law 1", 65);
        fault(nine + ";", 54);
    }

    /** A fault is where no house begins so: what stands ahead of it is good or only too short. */
    private static void everyPrefix() {
        String text = "worth 12 (a<3|!k=1)&h>22;loaf 9;bake 3 ((d=1));law 2;scale 10";
        String signs = "abdhik<=>!()|&;0123456789 wortlfsce?";
        for (int end = 0; end <= text.length(); end++) {
            String prefix = text.substring(0, end);
            int answer = Due.house(new AteLeast(), prefix);
            due.is("'" + prefix + "' too short or good", answer == 0 ? 1 : answer, answer == 0 ? 1 : -10 - end);
            for (int k = 0; k < signs.length(); k++) {
                String longer = prefix + signs.charAt(k);
                int fault = -10 - Due.house(new AteLeast(), longer);
                boolean right = fault == -10 || fault == end || fault == end + 1;
                due.is("'" + longer + "' fault " + fault, right ? 1 : 0, 1);
                // Again behind a longer text, of which nothing may be read.
                AteLeast x = new AteLeast();
                Due.house(x, text + "x");
                due.is("'" + longer + "' behind another", -10 - Due.house(x, longer), fault);
                if (fault == end) {
                    due.is("'" + longer + "' and more", Due.house(new AteLeast(), longer + "a=1;law 1"), -10 - end);
                }
            }
        }
    }

    private static void houses() {
        AteLeast x = new AteLeast();
        due.is("first", Due.house(x, "loaf 1"), 0);
        due.is("fault", Due.house(x, "loaf 2x"), -16);
        due.is("the one that held holds", x.told(0), 1);
        due.is("text is empty", x.count(3), 0);
        due.is("houses", x.count(1), 1);
        due.is("fault that reads far", Due.house(x, "loaf 3;law 2;scale 7;bake"), -35);
        due.is("loaf as it was", x.told(0), 1);
        due.is("law as it was", x.told(1), 0);
        x.eater(0, 0, 0);
        Due.house(x, "worth 5 a<9;bake 8 a<9;worth 6 a<9;loaf 3;law 2;scale 7;bake");
        due.is("a house after faults", Due.house(x, "worth 1 a=1"), 1);
        due.is("nothing is left of their clauses", x.of(0, 12), 0);
        due.is("nor of their cost", x.of(0, 6), 5);
        due.is("nor of their loaf", x.told(0), 8);
        due.is("nor of their law", x.told(1), 0);
        due.is("nor of their scale", x.told(2), 1);
        for (int k = 2; k < 6; k++) {
            due.is("house", Due.house(x, "loaf " + (k + 1)), k);
            due.is("newest holds", x.told(0), k + 1);
        }
        due.is("full", Due.house(x, "loaf 7"), -4);
        due.is("the text stays", x.count(3), 6);
        due.is("full again", x.house(), -4);
        due.is("FULL ahead of a fault", Due.house(x, "x"), -4);
        due.is("the text stays", x.count(3), 7);
        due.is("newest holds", x.told(0), 6);
        due.is("houses", x.count(1), 6);
    }

    private static void told(String text, int loaf, int law, int scale) {
        AteLeast x = Due.table(text);
        due.is("loaf of " + text, x.told(0), loaf);
        due.is("law of " + text, x.told(1), law);
        due.is("scale of " + text, x.told(2), scale);
    }

    private static void told() {
        told("worth 1 a=1", 8, 0, 1);
        told("loaf 0", 0, 0, 1);
        told("loaf 99;loaf 5", 5, 0, 1);
        told("law 5", 8, 2, 1);
        told("law 2;law 99", 8, 0, 1);
        told("law 1;scale 3", 8, 1, 3);
        told("scale 0", 8, 0, 1);
        told("scale 7;scale 0;loaf 3", 3, 0, 1);
        AteLeast x = Due.table("loaf 12", Due.e(0, 0, 4), Due.e(0, 0, 1));
        Due.house(x, "law 1");
        due.is("loaf of the newest", x.told(0), 8);
        x.supper();
        due.is("bin", x.told(3), 23);
        due.is("day", x.told(4), 1);
        due.is("baker", x.told(5), 0);
        due.is("what -1", x.told(-1), -1);
        due.is("what 6", x.told(6), -1);
    }

    /** What a clause's tests hold of: worth of slice a of the only eater (kind 1, v 2, hunger 3). */
    private static void holds(String tests, int a, boolean right) {
        AteLeast x = Due.table("worth 7 " + tests, Due.e(1, 2, 3));
        due.is(tests + " of slice " + a, x.of(0, 10 + a), right ? 7 : 0);
    }

    private static void tests() {
        holds("i=0", 1, true);
        holds("i>0", 1, false);
        holds("k=1", 1, true);
        holds("h<4", 1, true);
        holds("h<3", 1, false);
        holds("h>2", 1, true);
        holds("h>3", 1, false);
        holds("a=09", 9, true);
        holds("b=2", 1, true);
        holds("d=0", 1, true);
        holds("h=30", 1, false);
        holds("!a=2", 1, true);
        holds("!a=2", 2, false);
        holds("!!a=2", 2, true);
        // & binds closer than |, and ! closer than both.
        holds("a=1|a=2&a=3", 1, true);
        holds("(a=1|a=2)&a=3", 1, false);
        holds("a=1&a=2|a=3", 3, true);
        holds("a=1&(a=2|a=3)", 3, false);
        holds("!a=1|a=1", 1, true);
        holds("!a=1&a=2", 1, false);
        holds("!(a=1|a=2)", 1, false);
        holds("!(a=1&a=2)", 1, true);
        holds("!a=1&!a=2&!a=3", 4, true);
        holds("!a=1&!a=2&!a=3", 3, false);
        holds("a=1|a=2|a=3|a=4", 4, true);
        holds("(a<5&(a>2&!(a=4)))", 3, true);
        holds("(a<5&(a>2&!(a=4)))", 4, false);
        holds("a=9|(a=8|(a=7|(a=6|a=5&h=3)))", 5, true);
        holds("a=1&a=1&a=1&(a=1|a=2)&(a=2|a=1)", 1, true);
    }
}
