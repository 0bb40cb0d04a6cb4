/** Terms 1, sentence by sentence: what is just inside and just outside of what each names. */
public final class TermsTest {
    private static final Due due = new Due("TermsTest");
    private static final String[] WORDS = {"worth", "bake", "loaf", "law", "scale"};

    public static void main(String[] args) {
        eatersAtFirst();
        clausesOneToTen();
        oneBlank();
        oneOrTwoDigits();
        everySign();
        within();
        endsTooEarly();
        aHundredBytes();
        letters();
        lettersAsItBegins();
        worth();
        cost();
        loafLawScale();
        wishOfHungry();
        wishOfCrumb();
        wishOfTurn();
        wishOfBest();
        wishOfMartha();
        wishOfTold();
        eating();
        baker();
        scales();
        glad();
        binAndDay();
        due.end();
    }

    // ==== EATERS, as they come: EATEN 0 at first, GLAD 0 at first, also late in the days

    private static void eatersAtFirst() {
        AteLeast x = Due.table("", Due.e(0, 0, 9));
        Due.suppers(x, 3);
        due.is("a late one", x.eater(2, 1, 1), 1);
        due.is("EATEN 0 at first", x.of(1, 3), 0);
        due.is("GLAD 0 at first", x.of(1, 4), 0);
        due.is("a later one", x.eater(6, 1, 1), 2);
        for (int part = 0; part < 4; part++) {
            due.is("four numbers, 0 at first", x.row(2, part, 9), 0);
        }
    }

    // ==== A HOUSE is read from THE TEXT

    private static int house(String text) {
        return Due.house(new AteLeast(), text);
    }

    private static void good(String text) {
        due.is("'" + text + "'", house(text), 0);
    }

    private static void fault(String text, int place) {
        due.is("'" + text + "'", house(text), -10 - place);
    }

    private static String testOf(int word) {
        return word < 2 ? " a=1" : "";
    }

    private static void clausesOneToTen() {
        fault("", 0);
        fault(";", 0);
        for (int word = 0; word < 5; word++) {
            String clause = WORDS[word] + " 1" + testOf(word);
            good(clause);
            fault(";" + clause, 0);
            fault(clause + ";", clause.length() + 1);
            fault(clause + ";;" + clause, clause.length() + 1);
            fault(clause + clause, clause.length());
            fault(clause + "," + clause, clause.length());
        }
        StringBuilder text = new StringBuilder("law 1");
        for (int clauses = 2; clauses <= 10; clauses++) {
            text.append(";law ").append(clauses % 10);
            good(text.toString());
        }
        due.is("ten", text.length(), 59);
        fault(text + ";", 59);
        fault(text + ";law 1", 59);
        fault(text + "1;law 1", 60);
    }

    /** One blank ahead of each part behind the word. */
    private static void oneBlank() {
        for (int word = 0; word < 5; word++) {
            String name = WORDS[word];
            int length = name.length();
            fault(" " + name + " 1" + testOf(word), 0);
            fault(name + "1" + testOf(word), length);
            fault(name + "  1" + testOf(word), length + 1);
            fault(name + "\t1" + testOf(word), length);
            fault(name + " 1" + testOf(word) + " ", length + 2 + testOf(word).length());
            fault(name + " 1" + testOf(word) + "; law 1", length + 3 + testOf(word).length());
            if (word < 2) {
                fault(name + " 1a=1", length + 2);
                fault(name + " 1  a=1", length + 3);
                fault(name + " 1;", length + 2);
                fault(name + " 1 ;", length + 3);
                fault(name + " 1 a =1", length + 4);
            } else {
                fault(name + " 1 a=1", length + 2);
            }
        }
    }

    /** n 1 or 2 digits, and so the number of a TEST. */
    private static void oneOrTwoDigits() {
        for (int word = 0; word < 5; word++) {
            String head = WORDS[word] + " ";
            for (String n : new String[] {"0", "1", "9", "00", "01", "09", "10", "99"}) {
                good(head + n + testOf(word));
                good("bake 1 a<" + n);
            }
            fault(head + "100" + testOf(word), head.length() + 2);
            fault(head + "000" + testOf(word), head.length() + 2);
            fault(head + "-1" + testOf(word), head.length());
            fault(head + "/" + testOf(word), head.length());
            fault(head + ":" + testOf(word), head.length());
            fault(head + "1/" + testOf(word), head.length() + 1);
            fault(head + "1:" + testOf(word), head.length() + 1);
            fault(head + testOf(word), head.length());
        }
        fault("bake 1 a<100", 11);
        fault("bake 1 a<000", 11);
    }

    /** Every sign at every kind of place: what may stand there ends too early or is good, all else is a fault. */
    private static void everySign() {
        everySign("", "wbls", "");
        everySign("l", "oa", "");
        everySign("law 1;", "wbls", "");
        everySign("law", " ", "");
        everySign("law ", "", "0123456789");
        everySign("law 1", ";", "0123456789");
        everySign("law 12", ";", "");
        everySign("bake", " ", "");
        everySign("bake 1", " 0123456789", "");
        everySign("bake 12", " ", "");
        everySign("bake 1 ", "ikhabd!(", "");
        everySign("bake 1 (", "ikhabd!(", "");
        everySign("bake 1 !", "ikhabd!(", "");
        everySign("bake 1 !!!!", "ikhabd", "");
        everySign("bake 1 a", "<=>", "");
        everySign("bake 1 a=", "", "0123456789");
        everySign("bake 1 a=1", "&|;", "0123456789");
        everySign("bake 1 a=12", "&|;", "");
        everySign("bake 1 (a=1", "&|0123456789", ")");
        everySign("bake 1 (a=12", "&|", ")");
        everySign("bake 1 (a=1)", "&|;", "");
        everySign("bake 1 a=1&", "ikhabd!(", "");
        everySign("bake 1 a=1|", "ikhabd!(", "");
    }

    private static void everySign(String head, String early, String ends) {
        for (char sign = 0; sign < 128; sign++) {
            boolean good = ends.indexOf(sign) >= 0;
            int place = head.length() + (early.indexOf(sign) >= 0 ? 1 : 0);
            due.is("'" + head + "' and sign " + (int) sign, house(head + sign), good ? 0 : -10 - place);
        }
    }

    /** A ( or ! within 4 others is none. */
    private static void within() {
        for (int mask = 0; mask < 32; mask++) {
            good("bake 1 " + opened(mask, 4) + "a=1" + closed(mask, 4));
            fault("bake 1 " + opened(mask, 5) + "a=1" + closed(mask, 5), 11);
            good("bake 1 " + opened(mask, 4) + "a=1" + closed(mask, 4) + "&" + opened(mask, 4) + "b=1" + closed(mask, 4));
        }
        good("bake 1 !!!!a=1|!!!!a=1&!!!!a=1");
        good("bake 1 (!(!a=1&!a=2)|!(!a=3))");
        good("bake 1 (a=1&(a=1|(a=1&(a=1|a=1))))");
        fault("bake 1 (a=1&(a=1|(a=1&(a=1|!a=1))))", 27);
        fault("bake 1 (((!a=1)&(!!!a=1)))", 18);
        good("bake 1 (((!a=1)&(!a=1)))");
    }

    private static String opened(int mask, int n) {
        StringBuilder opened = new StringBuilder();
        for (int k = 0; k < n; k++) {
            opened.append((mask >> k & 1) == 1 ? '(' : '!');
        }
        return opened.toString();
    }

    private static String closed(int mask, int n) {
        return ")".repeat(Integer.bitCount(mask & (1 << n) - 1));
    }

    /** The end of THE TEXT, if it ends too early: everywhere but where a ^ stands. */
    private static void endsTooEarly() {
        String marked = "worth 12 (a<3|!k=14)^&h>2^2^;bake 3 ((d=1))^;loaf 9^9^;law 2^;scale 1^0^;worth 0 !a=0^";
        StringBuilder text = new StringBuilder();
        for (int k = 0; k < marked.length(); k++) {
            boolean good = k + 1 < marked.length() && marked.charAt(k + 1) == '^';
            if (marked.charAt(k) != '^') {
                text.append(marked.charAt(k));
                due.is("'" + text + "'", house(text.toString()), good ? 0 : -10 - text.length());
            }
        }
        fault("", 0);
    }

    /** Bytes, 100 at most: a fault in the last one, behind it, and none. */
    private static void aHundredBytes() {
        String most = "bake 1 a=1" + "|a=1".repeat(22);
        due.is("98 bytes", most.length(), 98);
        good(most);
        good(most + "2");
        fault(most + "|", 99);
        fault(most + "|a", 100);
        fault(most + "2|", 100);
        fault(most + "23", 99);
        good("law 1;" + "bake 1 a=1" + "|a=1".repeat(21));
        due.is("100 bytes", ("law 1;" + "bake 1 a=1" + "|a=1".repeat(21)).length(), 100);
        AteLeast x = new AteLeast();
        for (int k = 0; k < 130; k++) {
            x.feed((most + "22" + "x".repeat(30)).charAt(k));
        }
        due.is("only the first 100 are THE TEXT", x.house(), -109);
    }

    // ==== The letters of a TEST

    /** Less than, equal to, more than each of 0 .. 10, 98 and 99: does it hold of that value? */
    private static void holds(char letter, int value, String word, java.util.function.ToIntFunction<String> asked) {
        for (int n : new int[] {0, 1, 2, 3, 4, 5, 6, 7, 8, 9, 10, 98, 99}) {
            String head = word + " 7 " + letter;
            due.is(letter + " " + value + " < " + n, asked.applyAsInt(head + "<" + n), value < n ? 7 : 0);
            due.is(letter + " " + value + " = " + n, asked.applyAsInt(head + "=" + n), value == n ? 7 : 0);
            due.is(letter + " " + value + " > " + n, asked.applyAsInt(head + ">" + n), value > n ? 7 : 0);
        }
    }

    private static void letters() {
        for (String word : new String[] {"worth", "bake"}) {
            int what = word.equals("worth") ? 11 : 6;
            for (int i = 0; i <= 4; i++) {
                int e = i;
                holds('i', i, word, text -> five(text).of(e, what));
            }
            for (int k = 0; k <= 6; k++) {
                int kind = k;
                holds('k', k, word, text -> Due.table(text, Due.e(kind, 0, 0)).of(0, what));
            }
            for (int h = 0; h <= 9; h++) {
                int hunger = h;
                holds('h', h, word, text -> Due.table(text, Due.e(0, 0, hunger)).of(0, what));
            }
            for (int bread : new int[] {0, 9, 10, 19, 20, 89, 90, 99}) {
                holds('b', bread / 10, word, text -> withBread(text, bread, 0).of(0, what));
            }
            for (int day = 0; day <= 15; day++) {
                int days = day;
                holds('d', day % 7, word, text -> {
                    AteLeast x = Due.table(text, Due.e(0, 0, 0));
                    Due.suppers(x, days);
                    return x.of(0, what);
                });
            }
        }
        for (int slice = 1; slice <= 9; slice++) {
            int a = slice;
            holds('a', a, "worth", text -> Due.table(text, Due.e(0, 0, 0)).of(0, 10 + a));
        }
        for (int eaten = 0; eaten <= 9; eaten++) {
            int slices = eaten;
            holds('a', slices, "bake", text -> {
                AteLeast x = withBread(text, 99, slices);
                x.supper();
                return x.of(0, 6);
            });
        }
    }

    private static AteLeast five(String text) {
        return Due.table(text, Due.e(0, 0, 0), Due.e(0, 0, 0), Due.e(0, 0, 0), Due.e(0, 0, 0), Due.e(0, 0, 0));
    }

    /** One EATER of that HUNGER, that bread. */
    private static AteLeast withBread(String text, int bread, int hunger) {
        AteLeast x = Due.table(text, Due.e(0, 0, hunger));
        x.bin(bread);
        return x;
    }

    /** Both as the supper begins: not as the slices are gone or the loaf is baked; a as it was eaten at it. */
    private static void lettersAsItBegins() {
        AteLeast x = withBread("worth 3 b=1;bake 0 a=0", 10, 2);
        x.supper();
        due.is("10 slices, 8 behind two, 16 behind the loaf", x.of(0, 4), 6);
        x = withBread("worth 3 b=1;bake 0 a=0", 9, 2);
        x.supper();
        due.is("9 slices, 15 behind the loaf", x.of(0, 4), 0);
        x = withBread("worth 0 a=0;bake 3 b=1", 10, 2);
        x.supper();
        due.is("cost by 10 slices", x.of(0, 4), -3);
        x = withBread("worth 3 d=0;bake 4 d=0", 20, 2);
        x.supper();
        due.is("DAY 0", x.of(0, 4), 2);
        x.supper();
        due.is("DAY 1", x.of(0, 4), 2);
        Due.suppers(x, 6);
        due.is("DAY 7", x.of(0, 4), 4);
        x = withBread("worth 0 a=0;bake 4 a=2;bake 1 a=0", 20, 2);
        x.supper();
        due.is("EATEN at that supper, not at the one before", x.of(0, 4), -4);
        x.hunger(0, 0);
        x.supper();
        due.is("nothing EATEN at that supper", x.of(0, 4), -5);
    }

    private static void worth() {
        due.is("without a HOUSE", Due.table("", Due.e(0, 0, 0)).of(0, 11), 1);
        due.is("no worth CLAUSES at all", Due.table("bake 3 a=0;law 1", Due.e(0, 0, 0)).of(0, 19), 1);
        due.is("some, none of which holds", Due.table("worth 9 a<1", Due.e(0, 0, 0)).of(0, 11), 0);
        due.is("some, of 0", Due.table("worth 0 a>0", Due.e(0, 0, 0)).of(0, 11), 0);
        StringBuilder most = new StringBuilder("worth 99 a<9");
        for (int k = 1; k < 7; k++) {
            most.append(";worth 99 a<9");
        }
        AteLeast x = withBread(most.toString(), 99, 9);
        due.is("seven of 99, together", x.of(0, 11), 693);
        due.is("of the 8th slice", x.of(0, 18), 693);
        due.is("of the 9th none holds", x.of(0, 19), 0);
        x.supper();
        due.is("of all slices that it ate", x.of(0, 4), 8 * 693 - 5);
    }

    private static void cost() {
        due.is("without a HOUSE", Due.table("", Due.e(0, 0, 0)).of(0, 6), 5);
        due.is("no bake CLAUSES at all", Due.table("worth 3 a=1;law 1", Due.e(0, 0, 0)).of(0, 6), 5);
        due.is("some, none of which holds", Due.table("bake 9 a>9", Due.e(0, 0, 0)).of(0, 6), 0);
        due.is("some, of 0", Due.table("bake 0 a=0", Due.e(0, 0, 0)).of(0, 6), 0);
        due.is("all that hold, together", Due.table("bake 99 a=0;bake 99 a<1;bake 9 a>0", Due.e(0, 0, 0)).of(0, 6), 198);
    }

    private static void told(String text, int loaf, int law, int scale) {
        AteLeast x = Due.table(text);
        due.is("loaf of '" + text + "'", x.told(0), loaf);
        due.is("law of '" + text + "'", x.told(1), law);
        due.is("scale of '" + text + "'", x.told(2), scale);
    }

    /** loaf (8 without), law (0 without; modulo 3), scale (1 without; 0 as 1): the last one's n. */
    private static void loafLawScale() {
        told("", 8, 0, 1);
        told("worth 1 a=1", 8, 0, 1);
        told("loaf 0", 0, 0, 1);
        told("loaf 99", 99, 0, 1);
        told("loaf 3;loaf 4", 4, 0, 1);
        told("loaf 3;loaf 8;loaf 0", 0, 0, 1);
        for (int law = 0; law <= 9; law++) {
            told("law " + law, 8, law % 3, 1);
        }
        told("law 98", 8, 2, 1);
        told("law 99", 8, 0, 1);
        told("law 2;law 0", 8, 0, 1);
        told("law 0;law 2", 8, 2, 1);
        told("scale 0", 8, 0, 1);
        told("scale 1", 8, 0, 1);
        told("scale 2", 8, 0, 2);
        told("scale 99", 8, 0, 99);
        told("scale 5;scale 0", 8, 0, 1);
        told("scale 5;law 1;scale 2;loaf 3", 3, 1, 2);
    }

    // ==== WISH

    private static void wish(String of, AteLeast x, int e, int want) {
        due.is("wish of " + of, x.of(e, 5), want);
    }

    private static void wishOfHungry() {
        wish("EATER 0", Due.table("", Due.e(0, 9, 0)), 0, 0);
        wish("EATER 9", Due.table("", Due.e(0, 9, 9)), 0, 9);
        wish("HUNGRY 0 and 0", Due.table("", Due.e(1, 0, 0)), 0, 0);
        wish("HUNGRY 3 and 5", Due.table("", Due.e(1, 5, 3)), 0, 8);
        wish("HUNGRY 4 and 5", Due.table("", Due.e(1, 5, 4)), 0, 9);
        wish("HUNGRY 5 and 5, 9 at most", Due.table("", Due.e(1, 5, 5)), 0, 9);
        wish("HUNGRY 9 and 9, 9 at most", Due.table("", Due.e(1, 9, 9)), 0, 9);
    }

    /** EATEN of the one whose number is 1 less, and 1; 9 at most. */
    private static void wishOfCrumb() {
        for (int kind : new int[] {2, 5}) {
            int[] eaten = {0, 1, 7, 8, 9};
            int[] wants = {1, 2, 8, 9, 9};
            for (int k = 0; k < 5; k++) {
                AteLeast x = Due.table("", Due.e(0, 0, eaten[k]), Due.e(kind, 9, 0), Due.e(0, 0, 4));
                x.supper();
                wish("a crumb more than " + eaten[k], x, 1, wants[k]);
                AteLeast y = Due.table("", Due.e(kind, 9, 0), Due.e(0, 0, 4), Due.e(0, 0, eaten[k]));
                y.supper();
                wish("number 0: a crumb more than the last one's " + eaten[k], y, 0, wants[k]);
            }
            AteLeast x = Due.table("", Due.e(kind, 5, 9));
            for (int day = 0; day < 12; day++) {
                x.bin(99);
                wish("alone it sees itself, day " + day, x, 0, Math.min(9, day + 1));
                x.supper();
            }
            x.eater(0, 0, 9);
            wish("the last one is new and has EATEN nothing", x, 0, 1);
        }
        AteLeast last = Due.table("", Due.e(0, 0, 1), Due.e(0, 0, 2), Due.e(0, 0, 3), Due.e(0, 0, 4), Due.e(2, 0, 0));
        last.supper();
        wish("number 4 sees 3", last, 4, 5);
    }

    /** 0, if DAY modulo how many EATERS there are is its number; else HUNGER. */
    private static void wishOfTurn() {
        AteLeast alone = Due.table("", Due.e(3, 0, 6));
        AteLeast all = Due.table("", Due.e(3, 0, 6), Due.e(3, 0, 6), Due.e(3, 0, 6), Due.e(3, 0, 6), Due.e(3, 0, 6));
        for (int day = 0; day < 12; day++) {
            wish("TURN alone, day " + day, alone, 0, 0);
            for (int e = 0; e < 5; e++) {
                wish("TURN " + e + " of 5, day " + day, all, e, day % 5 == e ? 0 : 6);
            }
            alone.supper();
            all.supper();
        }
    }

    private static void wishOfBest() {
        AteLeast even = Due.table("worth 0 a=1;bake 0 a=1", Due.e(4, 9, 9), Due.e(0, 0, 3));
        wish("BEST to whom all is one", even, 0, 0);
        AteLeast free = Due.table("bake 0 a=0", Due.e(4, 0, 0));
        for (int bread : new int[] {0, 1, 8, 9, 10, 99}) {
            free.bin(bread);
            wish("BEST with " + bread + " slices", free, 0, Math.min(9, bread));
        }
        AteLeast one = Due.table("worth 5 a=9;bake 0 a=0", Due.e(4, 0, 0));
        wish("BEST for the 9th slice", one, 0, 9);
        one.bin(8);
        wish("BEST without a 9th slice", one, 0, 0);
        // the one ahead eats what it WISHES, so that 3 of 12 are left
        AteLeast behind = Due.table("bake 0 a=0", Due.e(1, 9, 9), Due.e(4, 0, 0));
        behind.bin(12);
        wish("BEST behind a HUNGRY one", behind, 1, 3);
        AteLeast two = Due.table("bake 0 a=0", Due.e(4, 9, 9), Due.e(4, 0, 0));
        two.bin(12);
        wish("BEST behind a BEST one, who is thought to eat 9, not 18", two, 1, 3);
        two.hunger(0, 0);
        wish("BEST behind a BEST one of v 9", two, 1, 3);
        AteLeast thought = Due.table("bake 0 a=0", Due.e(4, 1, 2), Due.e(4, 0, 0));
        thought.bin(9);
        wish("BEST behind a BEST one of v 1, HUNGER 2", thought, 1, 6);
        wish("who itself WISHES all", thought, 0, 9);
    }

    /** 0, if its v is below 5; else as CRUMB. */
    private static void wishOfMartha() {
        for (int v = 0; v <= 9; v++) {
            AteLeast x = Due.table("", Due.e(0, 0, 3), Due.e(5, v, 7));
            x.supper();
            wish("MARTHA of v " + v, x, 1, v < 5 ? 0 : 4);
        }
    }

    /** Its ROW at DAY modulo 4. */
    private static void wishOfTold() {
        AteLeast x = Due.table("", Due.e(6, 9, 9));
        for (int day = 0; day < 5; day++) {
            wish("TOLD at first, day " + day, x, 0, 0);
            x.supper();
        }
        int[] row = {9, 0, 1, 8};
        for (int part = 0; part < 4; part++) {
            x.row(0, part, row[part]);
        }
        for (int day = 5; day < 14; day++) {
            wish("TOLD, day " + day, x, 0, row[day % 4]);
            x.supper();
        }
    }

    // ==== A SUPPER

    private static void eaten(String of, int bread, int[] hungers, int... wants) {
        AteLeast x = new AteLeast();
        for (int hunger : hungers) {
            x.eater(0, 0, hunger);
        }
        x.bin(bread);
        x.supper();
        int left = bread;
        for (int e = 0; e < wants.length; e++) {
            due.is(of + ", eaten by " + e, x.of(e, 3), wants[e]);
            left -= wants[e];
        }
        due.is(of + ", the bin", x.told(3), Math.min(99, left + 8));
    }

    /** By numbers each eats that, or what is left in THE BIN, if that is less. */
    private static void eating() {
        eaten("as much as there is", 9, new int[] {4, 5}, 4, 5);
        eaten("one slice more", 10, new int[] {4, 5}, 4, 5);
        eaten("one slice less", 8, new int[] {4, 5}, 4, 4);
        eaten("none for the last one", 4, new int[] {4, 5}, 4, 0);
        eaten("less than the first one WISHES", 3, new int[] {4, 5}, 3, 0);
        eaten("no bread", 0, new int[] {9, 9, 9, 9, 9}, 0, 0, 0, 0, 0);
        eaten("bread for one of five", 9, new int[] {9, 9, 9, 9, 9}, 9, 0, 0, 0, 0);
        eaten("the second WISHES nothing", 5, new int[] {3, 0, 3}, 3, 0, 2);
        eaten("all that five may eat", 45, new int[] {9, 9, 9, 9, 9}, 9, 9, 9, 9, 9);
        eaten("a full bin", 99, new int[] {9, 9, 9, 9, 9}, 9, 9, 9, 9, 9);
        AteLeast nobody = new AteLeast();
        due.is("nothing is done, if nobody is there", nobody.supper(), -5);
        due.is("no loaf", nobody.told(3), 20);
        due.is("no day", nobody.told(4), 0);
        due.is("no baker", nobody.told(5), -5);
    }

    private static void bakes(String of, String house, int want, int... hungers) {
        AteLeast x = Due.table(house);
        for (int hunger : hungers) {
            x.eater(0, 0, hunger);
        }
        x.bin(99);
        due.is(of + " by '" + house + "'", x.supper(), want);
        due.is(of + " by '" + house + "', told", x.told(5), want);
    }

    private static void baker() {
        for (String law : new String[] {"law 0", "law 1", "law 2"}) {
            bakes("one alone", law, 0, 4);
            bakes("one alone who eats nothing", law, 0, 0);
        }
        bakes("of five alike the least number", "law 0", 0, 3, 3, 3, 3, 3);
        bakes("of five alike the least number", "law 1", 0, 3, 3, 3, 3, 3);
        bakes("the last one ate least", "law 0", 4, 3, 3, 3, 3, 2);
        bakes("the last one ate most", "law 1", 4, 3, 3, 3, 3, 4);
        bakes("the first one ate least", "law 0", 0, 2, 3, 3, 3, 3);
        bakes("two ate least", "law 0", 1, 3, 2, 3, 2, 3);
        bakes("two ate most", "law 1", 1, 3, 4, 3, 4, 3);
        int[] places = {0, 0, 1, 1, 2, 2};
        for (int n = 1; n <= 5; n++) {
            int[] rising = new int[n];
            int[] falling = new int[n];
            for (int k = 0; k < n; k++) {
                rising[k] = k + 2;
                falling[k] = 9 - k;
            }
            bakes("place " + places[n] + " of alike ones", "law 2", places[n], new int[n]);
            bakes("place " + places[n] + " of rising ones", "law 2", places[n], rising);
            bakes("place " + places[n] + " of falling ones", "law 2", n - 1 - places[n], falling);
        }
        bakes("two alike ahead of the place", "law 2", 1, 5, 4, 2, 2);
        bakes("two alike at the place, by numbers", "law 2", 3, 9, 4, 0, 4);
        bakes("three alike at the place, by numbers", "law 2", 3, 9, 4, 0, 4, 4);
    }

    /** By scale (cut): 8 by 3 is as 6 by 3. */
    private static void scales() {
        bakes("8 and 6 are alike", "scale 3", 0, 8, 6);
        bakes("8 and 5 are not", "scale 3", 1, 8, 5);
        bakes("9 and 8 are not", "law 1;scale 3", 1, 8, 9);
        bakes("8 and 7 are alike", "law 1;scale 3", 0, 7, 8);
        bakes("9 and 0 are not", "scale 9", 1, 9, 0);
        bakes("8 and 0 are alike", "scale 9", 0, 8, 0);
        bakes("9 and 0 are alike", "scale 10", 0, 9, 0);
        bakes("all alike", "law 2;scale 99", 1, 9, 8, 0);
        bakes("by 1", "law 2;scale 0", 1, 9, 8, 0);
        bakes("by 2 the middle of 4, 4, 3", "law 2;scale 2", 0, 8, 9, 7);
    }

    /** WORTH of all slices that it ate, together, less COST, if it is THE BAKER. */
    private static void glad() {
        AteLeast x = Due.table("worth 2 a=1;worth 3 a=4;bake 7 a<9", Due.e(0, 0, 0), Due.e(0, 0, 1), Due.e(0, 0, 4));
        int[] has = {-7, 2, 5};
        for (int day = 1; day <= 3; day++) {
            x.supper();
            for (int e = 0; e < 3; e++) {
                due.is("GLAD is that more, day " + day, x.of(e, 4), day * has[e]);
            }
        }
        AteLeast last = Due.table("law 1;worth 2 a=9;bake 7 a=9;bake 1 a<9", Due.e(0, 0, 8), Due.e(0, 0, 8), Due.e(0, 0, 8),
            Due.e(0, 0, 8), Due.e(4, 0, 0));
        last.bin(99);
        last.hunger(4, 9);
        due.is("the first of those who ate most bakes", last.supper(), 0);
        due.is("BEST would not: it ate less", last.of(4, 3), 0);
        AteLeast most = Due.table("law 1;worth 2 a=9;bake 7 a=9;bake 1 a<9", Due.e(0, 0, 8), Due.e(0, 0, 8), Due.e(0, 0, 8),
            Due.e(0, 0, 8), Due.e(0, 0, 9));
        most.bin(99);
        due.is("the last of five ate 9 and bakes", most.supper(), 4);
        due.is("the 9th slice, less COST behind nine", most.of(4, 4), -5);
        AteLeast none = Due.table("worth 9 a>0;bake 99 i>0", Due.e(0, 0, 0));
        none.supper();
        due.is("nothing eaten, nothing that it costs", none.of(0, 4), 0);
    }

    /** THE BIN is loaf more (99 at most); DAY is 1 more. */
    private static void binAndDay() {
        int[][] bins = {{0, 0, 0}, {0, 99, 99}, {1, 99, 99}, {90, 8, 98}, {91, 8, 99}, {92, 8, 99}, {99, 0, 99}, {99, 99, 99}};
        for (int[] b : bins) {
            AteLeast x = withBread("loaf " + b[1], b[0], 0);
            x.supper();
            due.is(b[0] + " and a loaf of " + b[1], x.told(3), b[2]);
            due.is("DAY is 1 more", x.told(4), 1);
        }
        AteLeast eaten = withBread("loaf 8", 99, 9);
        eaten.supper();
        due.is("99 less 9, 8 more", eaten.told(3), 98);
        eaten.hunger(0, 8);
        eaten.bin(99);
        eaten.supper();
        due.is("99 less 8, 8 more", eaten.told(3), 99);
        eaten.hunger(0, 7);
        eaten.supper();
        due.is("99 less 7, 8 more", eaten.told(3), 99);
    }
}
