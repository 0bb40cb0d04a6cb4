import java.util.Random;

/** All promises: random runs of calls, each answer held against Model's. The seeds are fixed. */
public final class ModelTest {
    private static final int RUNS = 200, CALLS = 140;
    /** No more are begun behind so many, as 512 are promised and one step may take a hundred. */
    private static final int MOST_CALLS = 400;
    private static final Due due = new Due("ModelTest");
    private static final int[] ODD = {
        Integer.MIN_VALUE, Integer.MIN_VALUE + 10, Integer.MIN_VALUE + 20, -1000, -2, -1, 100, 128, 1000,
        Integer.MAX_VALUE - 1, Integer.MAX_VALUE,
    };

    private final Random random;
    private final AteLeast x = new AteLeast();
    private final Model m = new Model();
    private final StringBuilder calls = new StringBuilder();
    private int asked = 0;

    private ModelTest(long seed) {
        random = new Random(seed);
    }

    public static void main(String[] args) {
        int runs = args.length > 0 ? Integer.parseInt(args[0]) : RUNS;
        long first = args.length > 1 ? Long.parseLong(args[1]) : 1;
        for (long seed = first; seed < first + runs; seed++) {
            new ModelTest(seed).run();
        }
        due.end();
    }

    private void run() {
        if (random.nextInt(8) > 0) {
            int eaters = 1 + random.nextInt(5);
            for (int k = 0; k < eaters; k++) {
                call(0);
            }
        }
        if (random.nextInt(5) > 0) {
            feedHouse();
            is("house()", x.house(), m.house());
        }
        for (int k = 0; k < CALLS && asked < MOST_CALLS; k++) {
            call(random.nextInt(34));
        }
    }

    private void is(String call, long got, long want) {
        asked++;
        calls.append(call).append("; ");
        due.is(got == want ? call : calls.toString(), got, want);
    }

    /** Mostly from least to most, now and then one off, seldom far off. */
    private int num(int least, int most) {
        int way = random.nextInt(30);
        if (way == 0) {
            return ODD[random.nextInt(ODD.length)];
        }
        if (way == 1) {
            return random.nextBoolean() ? least - 1 : most + 1;
        }
        return least + random.nextInt(most - least + 1);
    }

    private int who() {
        return num(0, random.nextInt(6) == 0 ? 4 : Math.max(0, m.now.eaters.size() - 1));
    }

    private void feedHouse() {
        StringBuilder text = new StringBuilder();
        int clauses = 1 + random.nextInt(random.nextInt(6) == 0 ? 11 : 5);
        for (int k = 0; k < clauses; k++) {
            text.append(k == 0 ? "" : ";").append(clause());
        }
        if (random.nextInt(6) == 0 && text.length() > 0) {
            spoil(text);
        }
        for (int k = 0; k < text.length(); k++) {
            is("feed(" + (int) text.charAt(k) + ")", x.feed(text.charAt(k)), m.feed(text.charAt(k)));
        }
    }

    private void spoil(StringBuilder text) {
        String signs = "worthbakelfsc 0123456789ikhabd<=>!()|&;x";
        int at = random.nextInt(text.length());
        switch (random.nextInt(4)) {
            case 0: text.setLength(at); break;
            case 1: text.deleteCharAt(at); break;
            case 2: text.insert(at, signs.charAt(random.nextInt(signs.length()))); break;
            default: text.setCharAt(at, signs.charAt(random.nextInt(signs.length()))); break;
        }
    }

    private String clause() {
        int n = random.nextInt(random.nextInt(4) == 0 ? 100 : 12);
        switch (random.nextInt(8)) {
            case 0: return "loaf " + random.nextInt(40);
            case 1: return "law " + random.nextInt(6);
            case 2: return "scale " + random.nextInt(5);
            case 3:
            case 4: return "bake " + n + " " + either(0);
            default: return "worth " + n + " " + either(0);
        }
    }

    private String either(int depth) {
        return random.nextInt(4) == 0 ? both(depth) + "|" + either(depth) : both(depth);
    }

    private String both(int depth) {
        return random.nextInt(4) == 0 ? one(depth) + "&" + both(depth) : one(depth);
    }

    private String one(int depth) {
        int most = random.nextInt(20) == 0 ? 5 : 4;
        if (depth < most && random.nextInt(5) == 0) {
            return "!" + one(depth + 1);
        }
        if (depth < most && random.nextInt(6) == 0) {
            return "(" + either(depth + 1) + ")";
        }
        int letter = random.nextInt(6);
        int[] range = {5, 7, 10, 10, 10, 7};
        return "ikhabd".charAt(letter) + "" + "<=>".charAt(random.nextInt(3)) + random.nextInt(range[letter] + 1);
    }

    private void call(int which) {
        if (which < 12) {
            eatersAndSuppers(which);
        } else if (which < 24) {
            questions(which);
        } else {
            tapesAndActs(which);
        }
    }

    private void eatersAndSuppers(int which) {
        int a = who();
        int n = num(0, 9);
        int v = num(0, 9);
        switch (which) {
            case 0: {
                int kind = num(0, 6);
                is("eater(" + kind + ", " + v + ", " + n + ")", x.eater(kind, v, n), m.eater(kind, v, n));
                break;
            }
            case 1: {
                int what = num(0, 19);
                is("of(" + a + ", " + what + ")", x.of(a, what), m.of(a, what));
                break;
            }
            case 2: is("hunger(" + a + ", " + n + ")", x.hunger(a, n), m.hunger(a, n)); break;
            case 3: {
                int part = num(0, 3);
                is("row(" + a + ", " + part + ", " + n + ")", x.row(a, part, n), m.row(a, part, n));
                break;
            }
            case 4: {
                int bin = num(0, 99);
                is("bin(" + bin + ")", x.bin(bin), m.bin(bin));
                break;
            }
            case 5: {
                int sign = num(0, 127);
                is("feed(" + sign + ")", x.feed(sign), m.feed(sign));
                break;
            }
            case 6: {
                if (random.nextInt(4) == 0) {
                    is("house()", x.house(), m.house());
                    feedHouse();
                }
                is("house()", x.house(), m.house());
                break;
            }
            case 7: {
                int what = num(0, 5);
                is("told(" + what + ")", x.told(what), m.told(what));
                break;
            }
            case 8:
            case 9: is("supper()", x.supper(), m.supper()); break;
            case 10: {
                int what = pick(num(0, 1), 10 + a, 20 + a);
                int suppers = num(0, 60);
                is("run(" + suppers + ", " + what + ")", x.run(suppers, what), m.run(suppers, what));
                break;
            }
            default: is("round()", x.round(), m.round()); break;
        }
    }

    private int pick(int... of) {
        return of[random.nextInt(of.length)];
    }

    private void questions(int which) {
        int a = who();
        int b = who();
        int n = num(0, random.nextInt(3) == 0 ? 60 : 9);
        int what = pick(0, 10 + a, 10 + b, num(0, 14));
        int part = num(0, 1);
        switch (which) {
            case 12: is("still(" + what + ")", x.still(what), m.still(what)); break;
            case 13: is("allBest(" + what + ")", x.allBest(what), m.allBest(what)); break;
            case 14: is("laws(" + n + ")", x.laws(n), m.laws(n)); break;
            case 15: is("cook(" + a + ", " + n + ")", x.cook(a, n), m.cook(a, n)); break;
            case 16: is("thin(" + n + ")", x.thin(n), m.thin(n)); break;
            case 17: is("pact(" + a + ", " + b + ", " + n + ")", x.pact(a, b, n), m.pact(a, b, n)); break;
            case 18: is("guest(" + n + ")", x.guest(n), m.guest(n)); break;
            case 19: is("odds(" + a + ", " + part + ")", x.odds(a, part), m.odds(a, part)); break;
            case 20: is("mean(" + n + ", " + part + ")", x.mean(n, part), m.mean(n, part)); break;
            case 21:
            case 22: {
                // Mostly what is true, so that looked() goes far.
                int bread = random.nextInt(4) == 0 ? num(-1, 99) : m.run(Math.min(60, m.now.book.size() + 1), 0);
                is("book(" + bread + ")", x.book(bread), m.book(bread));
                break;
            }
            default: is("looked()", x.looked(), m.looked()); break;
        }
    }

    private void tapesAndActs(int which) {
        int t = num(0, random.nextInt(2) == 0 ? 5 : 1);
        int u = num(0, random.nextInt(2) == 0 ? 5 : 1);
        int i = num(0, 6);
        int j = num(0, 6);
        int a = who();
        switch (which) {
            case 24: judge(t, i); break;
            case 25: is("image()", x.image(), m.image()); break;
            case 26: is("undo()", x.undo(), m.undo()); break;
            case 27: {
                int act = num(0, 2);
                int by = random.nextBoolean() ? random.nextInt() : num(0, 9);
                is("act(" + a + ", " + act + ", " + by + ")", x.act(a, act, by), m.act(a, act, by));
                for (int k = 0; k <= m.count(4); k++) {
                    is("trace(" + k + ")", x.trace(k), m.trace(k));
                }
                break;
            }
            case 28: is("trace(" + i + ")", x.trace(i), m.trace(i)); break;
            case 29: is("taken(" + a + ", " + i + ")", x.taken(a, i), m.taken(a, i)); break;
            case 30: is("count(" + i + ")", x.count(i), m.count(i)); break;
            case 31: {
                int sort = random.nextInt(3) == 0 ? 2 : num(-1, 4);
                int n = num(0, random.nextInt(4) == 0 ? 60 : 7);
                is("tape(" + t + ", " + sort + ", " + n + ")", x.tape(t, sort, n), m.tape(t, sort, n));
                break;
            }
            case 32: {
                long v = random.nextLong() >> random.nextInt(64);
                is("item(" + t + ", " + i + ", " + v + ")", x.item(t, i, v), m.item(t, i, v));
                is("read(" + t + ", " + i + ")", x.read(t, i), m.read(t, i));
                break;
            }
            default: {
                int n = num(0, 5);
                is("shift(" + t + ", " + i + ", " + u + ", " + j + ", " + n + ")",
                    x.shift(t, i, u, j, n), m.shift(t, i, u, j, n));
                for (int k = 0; k < 8; k++) {
                    is("read(" + u + ", " + k + ")", x.read(u, k), m.read(u, k));
                }
                break;
            }
        }
    }

    /** Now and then the row is told as it is, but for one of them perhaps. */
    private void judge(int t, int i) {
        if (random.nextBoolean()) {
            for (int e = 0; e < m.now.eaters.size(); e++) {
                long glad = m.of(e, 4) + (random.nextInt(9) == 0 ? 1 : 0);
                is("item(" + t + ", " + (i + e) + ", " + glad + ")", x.item(t, i + e, glad), m.item(t, i + e, glad));
            }
        }
        is("judge(" + t + ", " + i + ")", x.judge(t, i), m.judge(t, i));
    }
}
