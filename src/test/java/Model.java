import java.util.ArrayList;
import java.util.Arrays;
import java.util.HashMap;
import java.util.List;
import java.util.Map;

/** The document once more, written as plainly as can be and without any thought of speed, for ModelTest. */
final class Model {
    private static final int[] ABOVE = {-1, 0, 0, 0, 1, 2, 3};
    /** Kept, because texts are taken apart slowly. */
    private static final Map<String, Map<String, List<String[]>>> CLAUSES = new HashMap<>();
    private static final String[] ACTS = {"eats", "bakes", "tells"};

    static final class Eater {
        int kind, v, hunger, eaten, glad;
        int[] row = new int[4];

        Eater copy() {
            Eater e = new Eater();
            e.kind = kind;
            e.v = v;
            e.hunger = hunger;
            e.eaten = eaten;
            e.glad = glad;
            e.row = row.clone();
            return e;
        }
    }

    /** All that an image keeps, and what a question may suppose. */
    static final class State {
        List<Eater> eaters = new ArrayList<>();
        List<Integer> book = new ArrayList<>();
        int bin = 20, day = 0, baker = -5;
        String house = "";
        int law = -1;
        boolean free = false;
        int lesser = -1, greater = -1;
        int[] bakes = new int[5];
        boolean shortOf = false;

        State copy() {
            State s = new State();
            for (Eater e : eaters) {
                s.eaters.add(e.copy());
            }
            s.book.addAll(book);
            s.bin = bin;
            s.day = day;
            s.baker = baker;
            s.house = house;
            return s;
        }

        // ---- the house

        List<String[]> clauses(String word) {
            return CLAUSES.computeIfAbsent(house, h -> new HashMap<>()).computeIfAbsent(word, w -> clausesOf(w));
        }

        private List<String[]> clausesOf(String word) {
            List<String[]> found = new ArrayList<>();
            for (String clause : house.split(";")) {
                String[] parts = clause.split(" ");
                if (parts[0].equals(word)) {
                    found.add(parts);
                }
            }
            return found;
        }

        int last(String word, int without) {
            List<String[]> all = clauses(word);
            return all.isEmpty() ? without : Integer.parseInt(all.get(all.size() - 1)[1]);
        }

        int loaf() {
            return last("loaf", 8);
        }

        int law() {
            return law >= 0 ? law : last("law", 0) % 3;
        }

        int scale() {
            return Math.max(1, last("scale", 1));
        }

        int sum(String word, int without, int i, int a, int begunBin, int begunDay) {
            List<String[]> all = clauses(word);
            if (all.isEmpty()) {
                return without;
            }
            Map<Character, Integer> values = new HashMap<>();
            values.put('i', i);
            values.put('k', eaters.get(i).kind);
            values.put('h', eaters.get(i).hunger);
            values.put('a', a);
            values.put('b', begunBin / 10);
            values.put('d', begunDay % 7);
            int sum = 0;
            for (String[] parts : all) {
                sum += new Tests(parts[2], values).either() ? Integer.parseInt(parts[1]) : 0;
            }
            return sum;
        }

        int worth(int i, int a, int begunBin, int begunDay) {
            return sum("worth", 1, i, a, begunBin, begunDay);
        }

        int cost(int i, int a, int begunBin, int begunDay) {
            return free ? 0 : sum("bake", 5, i, a, begunBin, begunDay);
        }

        // ---- a supper

        int crumb(int i) {
            return Math.min(9, eaters.get(i == 0 ? eaters.size() - 1 : i - 1).eaten + 1);
        }

        int wish(int i, boolean bestAsHungry) {
            Eater e = eaters.get(i);
            if (e.kind == 0) {
                return e.hunger;
            }
            if (e.kind == 1 || (e.kind == 4 && bestAsHungry)) {
                return Math.min(9, e.hunger + e.v);
            }
            if (e.kind == 2 || (e.kind == 5 && e.v >= 5)) {
                return crumb(i);
            }
            if (e.kind == 5) {
                return 0;
            }
            if (e.kind == 3) {
                return day % eaters.size() == i ? 0 : e.hunger;
            }
            if (e.kind == 6) {
                return e.row[day % 4];
            }
            int[] wishes = new int[eaters.size()];
            for (int o = 0; o < wishes.length; o++) {
                wishes[o] = o == i ? 0 : wish(o, true);
            }
            int best = 0;
            for (int w = 1; w < 10; w++) {
                int[] less = wishes.clone();
                less[i] = best;
                int[] more = wishes.clone();
                more[i] = w;
                if (has(more)[i] > has(less)[i]) {
                    best = w;
                }
            }
            return best;
        }

        int[] eat(int[] wishes) {
            int left = bin;
            int[] eaten = new int[wishes.length];
            for (int i = 0; i < wishes.length; i++) {
                eaten[i] = wishes[i] < left ? wishes[i] : left;
                left -= eaten[i];
            }
            return eaten;
        }

        int bakerOf(int[] eaten) {
            List<Integer> all = new ArrayList<>();
            for (int i = 0; i < eaten.length; i++) {
                all.add(i);
            }
            int scale = scale();
            // A stable sort leaves alike ones by numbers.
            int sign = law() == 1 ? -1 : 1;
            all.sort((x, y) -> sign * Integer.compare(eaten[x] / scale, eaten[y] / scale));
            return all.get(law() == 2 ? all.size() / 2 : 0);
        }

        int[] has(int[] wishes) {
            int[] eaten = eat(wishes);
            int[] has = new int[eaten.length];
            int baker = eaten.length == 0 ? -5 : bakerOf(eaten);
            for (int i = 0; i < has.length; i++) {
                for (int a = 1; a <= eaten[i]; a++) {
                    has[i] += worth(i, a, bin, day);
                }
                if (baker == i) {
                    has[i] -= cost(i, eaten[i], bin, day);
                }
            }
            return has;
        }

        int[] wishes() {
            int[] wishes = new int[eaters.size()];
            for (int i = 0; i < wishes.length; i++) {
                wishes[i] = wish(i, false);
            }
            if (lesser >= 0) {
                wishes[lesser] = day % 2 == 0 ? 0 : 9;
                wishes[greater] = day % 2 == 0 ? 9 : 0;
            }
            return wishes;
        }

        State supper() {
            if (eaters.isEmpty()) {
                return this;
            }
            int[] wishes = wishes();
            int[] eaten = eat(wishes);
            int[] has = has(wishes);
            baker = bakerOf(eaten);
            bakes[baker]++;
            shortOf = !Arrays.equals(eaten, wishes);
            for (int i = 0; i < eaten.length; i++) {
                eaters.get(i).eaten = eaten[i];
                eaters.get(i).glad += has[i];
                bin -= eaten[i];
            }
            bin = Math.min(99, bin + loaf());
            day++;
            return this;
        }

        State suppers(int n) {
            for (int k = 0; k < n; k++) {
                supper();
            }
            return this;
        }

        int gladOfAll() {
            return eaters.stream().mapToInt(e -> e.glad).sum();
        }
    }

    /** Tests of a text without faults, answered as they are read. */
    static final class Tests {
        private final String text;
        private final Map<Character, Integer> values;
        private int at = 0;

        Tests(String text, Map<Character, Integer> values) {
            this.text = text;
            this.values = values;
        }

        private char next() {
            return at < text.length() ? text.charAt(at) : 0;
        }

        boolean either() {
            boolean left = both();
            if (next() != '|') {
                return left;
            }
            at++;
            boolean right = either();
            return left || right;
        }

        private boolean both() {
            boolean left = one();
            if (next() != '&') {
                return left;
            }
            at++;
            boolean right = both();
            return left && right;
        }

        private boolean one() {
            char first = next();
            at++;
            if (first == '!') {
                return !one();
            }
            if (first == '(') {
                boolean inside = either();
                at++;
                return inside;
            }
            char relation = next();
            at++;
            int start = at;
            while (Character.isDigit(next())) {
                at++;
            }
            int number = Integer.parseInt(text.substring(start, at));
            int value = values.get(first);
            return relation == '<' ? value < number : relation == '>' ? value > number : value == number;
        }
    }

    /** Where the ends of all houses that begin so are taken one byte on; -1 as long as there are some. */
    static int faultOf(String text) {
        for (int end = 0; end < text.length(); end++) {
            if (!begins(text.substring(0, end + 1))) {
                return end;
            }
        }
        return isHouse(text) ? -1 : text.length();
    }

    /** A text begins a house if one of these ends makes it one. */
    private static boolean begins(String text) {
        for (String word : new String[] {"worth", "bake", "loaf", "law", "scale"}) {
            for (int cut = 0; cut < word.length(); cut++) {
                if (endsIn(text + word.substring(cut) + " 1" + (word.length() > 4 && word.charAt(0) == 'w'
                        || word.equals("bake") ? " a=1" : ""))) {
                    return true;
                }
            }
        }
        for (String end : new String[] {"", "1", " 1", "1 a=1", " 1 a=1", " a=1", "a=1", "=1"}) {
            if (endsIn(text + end)) {
                return true;
            }
        }
        return false;
    }

    private static boolean endsIn(String text) {
        String closed = text;
        for (int k = 0; k <= 4; k++) {
            if (isHouse(closed)) {
                return true;
            }
            closed += ")";
        }
        return false;
    }

    private static boolean isHouse(String text) {
        String[] clauses = text.split(";", -1);
        if (clauses.length > 10) {
            return false;
        }
        for (String clause : clauses) {
            if (!clause.matches("(loaf|law|scale) [0-9][0-9]?") && !(clause.matches("(worth|bake) [0-9][0-9]? .*")
                    && areTests(clause.replaceFirst("^[a-z]+ [0-9]+ ", "")))) {
                return false;
            }
        }
        return true;
    }

    /** Takes out tests from the inmost, each becoming one as deep as what it was. */
    private static boolean areTests(String text) {
        if (!text.matches("[!()&|ikhabd<=>0-9]*") || deepest(text) > 4) {
            return false;
        }
        String less = text.replaceAll("[ikhabd][<=>][0-9][0-9]?(?![0-9])", "T");
        if (less.matches(".*[a-z<=>0-9].*")) {
            return false;
        }
        String more = "";
        while (!more.equals(less)) {
            more = less;
            less = less.replace("!T", "T").replace("(T)", "T").replace("T&T", "T").replace("T|T", "T");
        }
        return less.equals("T");
    }

    /** How deep ( and ! stand in one another: a ! goes as far as the test or bracket behind it. */
    private static int deepest(String text) {
        int deepest = 0;
        int depth = 0;
        List<Integer> opened = new ArrayList<>();
        for (int k = 0; k < text.length(); k++) {
            char c = text.charAt(k);
            if (c == '!' || c == '(') {
                depth++;
                deepest = Math.max(deepest, depth);
                if (c == '(') {
                    opened.add(depth);
                }
            } else if (c == '&' || c == '|') {
                depth = opened.isEmpty() ? 0 : opened.get(opened.size() - 1);
            } else if (c == ')') {
                depth = opened.isEmpty() ? 0 : opened.remove(opened.size() - 1) - 1;
            }
        }
        return deepest;
    }

    // ---- the object

    State now = new State();
    State image = null;
    List<String> houses = new ArrayList<>();
    StringBuilder text = new StringBuilder();
    Object[] tapes = new Object[6];
    List<Integer> trace = new ArrayList<>();

    private boolean is(int eater) {
        return eater >= 0 && eater < now.eaters.size();
    }

    private static boolean in(int n, int least, int most) {
        return n >= least && n <= most;
    }

    int eater(int kind, int v, int hunger) {
        if (!in(kind, 0, 6)) {
            return -1;
        }
        if (!in(v, 0, 9) || !in(hunger, 0, 9)) {
            return -2;
        }
        if (now.eaters.size() == 5) {
            return -4;
        }
        Eater e = new Eater();
        e.kind = kind;
        e.v = v;
        e.hunger = hunger;
        now.eaters.add(e);
        return now.eaters.size() - 1;
    }

    int of(int eater, int what) {
        if (!is(eater) || !(in(what, 0, 6) || in(what, 11, 19))) {
            return -1000001;
        }
        Eater e = now.eaters.get(eater);
        if (what > 10) {
            return now.worth(eater, what - 10, now.bin, now.day);
        }
        if (what == 5) {
            return now.wish(eater, false);
        }
        if (what == 6) {
            return now.cost(eater, e.eaten, now.bin, now.day);
        }
        return new int[] {e.kind, e.v, e.hunger, e.eaten, e.glad}[what];
    }

    int hunger(int eater, int n) {
        if (!is(eater)) {
            return -1;
        }
        if (!in(n, 0, 9)) {
            return -2;
        }
        int was = now.eaters.get(eater).hunger;
        now.eaters.get(eater).hunger = n;
        return was;
    }

    int row(int eater, int part, int n) {
        if (!is(eater) || !in(part, 0, 3)) {
            return -1;
        }
        if (!in(n, 0, 9)) {
            return -2;
        }
        if (now.eaters.get(eater).kind != 6) {
            return -3;
        }
        int was = now.eaters.get(eater).row[part];
        now.eaters.get(eater).row[part] = n;
        return was;
    }

    int bin(int n) {
        if (!in(n, 0, 99)) {
            return -2;
        }
        int was = now.bin;
        now.bin = n;
        return was;
    }

    int feed(int sign) {
        if (!in(sign, 0, 127)) {
            return -2;
        }
        if (text.length() == 100) {
            return -4;
        }
        return text.append((char) sign).length();
    }

    int house() {
        if (houses.size() == 6) {
            return -4;
        }
        String read = text.toString();
        text.setLength(0);
        int fault = faultOf(read);
        if (fault >= 0) {
            return -10 - fault;
        }
        houses.add(read);
        now.house = read;
        return houses.size() - 1;
    }

    int told(int what) {
        if (!in(what, 0, 5)) {
            return -1;
        }
        return new int[] {now.loaf(), now.law(), now.scale(), now.bin, now.day, now.baker}[what];
    }

    int supper() {
        return now.supper().baker;
    }

    int run(int n, int what) {
        if (!in(what, 0, 1) && !(in(what, 10, 14) && is(what - 10)) && !(in(what, 20, 24) && is(what - 20))) {
            return -1000001;
        }
        if (!in(n, 0, 60)) {
            return -1000002;
        }
        State s = now.copy().suppers(n);
        return what == 0 ? s.bin : what == 1 ? s.baker
            : what < 20 ? s.eaters.get(what - 10).glad : s.bakes[what - 20];
    }

    private static List<Integer> eatenOf(State s) {
        List<Integer> eaten = new ArrayList<>();
        for (Eater e : s.eaters) {
            eaten.add(e.eaten);
        }
        return eaten;
    }

    int round() {
        for (int n = 1; n <= 60; n++) {
            State s = now.copy().suppers(n);
            if (s.bin == now.bin && eatenOf(s).equals(eatenOf(now))) {
                return n;
            }
        }
        return -5;
    }

    private List<int[]> rows() {
        List<int[]> rows = new ArrayList<>();
        rows.add(new int[now.eaters.size()]);
        for (int i = 0; i < now.eaters.size(); i++) {
            List<int[]> longer = new ArrayList<>();
            for (int[] row : rows) {
                for (int w = 0; w < 4; w++) {
                    int[] one = row.clone();
                    one[i] = w;
                    longer.add(one);
                }
            }
            rows = longer;
        }
        return rows;
    }

    int still(int what) {
        if (what != 0 && !(in(what, 10, 14) && is(what - 10))) {
            return -1000001;
        }
        if (now.eaters.size() > 4) {
            return -9;
        }
        List<int[]> found = new ArrayList<>();
        for (int[] row : rows()) {
            int[] has = now.eaters.isEmpty() ? row : now.has(row);
            boolean still = true;
            for (int i = 0; i < row.length; i++) {
                for (int w = 0; w < 4; w++) {
                    int[] other = row.clone();
                    other[i] = w;
                    still &= now.has(other)[i] <= has[i];
                }
            }
            if (still) {
                found.add(row);
            }
        }
        return what == 0 ? found.size() : found.isEmpty() ? -5 : found.get(0)[what - 10];
    }

    int allBest(int what) {
        if (what != 0 && !(in(what, 10, 14) && is(what - 10))) {
            return -1000001;
        }
        if (now.eaters.size() > 4) {
            return -9;
        }
        if (now.eaters.isEmpty()) {
            return 0;
        }
        int[] best = null;
        for (int[] row : rows()) {
            if (best == null || Arrays.stream(now.has(row)).sum() > Arrays.stream(now.has(best)).sum()) {
                best = row;
            }
        }
        return what == 0 ? Arrays.stream(now.has(best)).sum() : best[what - 10];
    }

    int laws(int n) {
        if (!in(n, 0, 60)) {
            return -2;
        }
        int best = 0;
        int[] glad = new int[3];
        for (int law = 0; law < 3; law++) {
            State s = now.copy();
            s.law = law;
            glad[law] = s.suppers(n).gladOfAll();
            best = glad[law] > glad[best] ? law : best;
        }
        return best;
    }

    int cook(int eater, int n) {
        if (!is(eater)) {
            return -1000001;
        }
        if (!in(n, 0, 60)) {
            return -1000002;
        }
        State s = now.copy();
        s.free = true;
        return s.suppers(n).eaters.get(eater).glad - now.copy().suppers(n).eaters.get(eater).glad;
    }

    int thin(int n) {
        if (!in(n, 0, 8)) {
            return -2;
        }
        for (int bin = 0; bin < 100; bin++) {
            State s = now.copy();
            s.bin = bin;
            boolean enough = true;
            for (int k = 0; k < n && enough; k++) {
                enough = !s.supper().shortOf;
            }
            if (enough) {
                return bin;
            }
        }
        return -5;
    }

    int pact(int one, int other, int n) {
        if (!is(one) || !is(other)) {
            return -1000001;
        }
        if (one == other || !in(n, 0, 60)) {
            return -1000002;
        }
        State s = now.copy();
        s.lesser = Math.min(one, other);
        s.greater = Math.max(one, other);
        s.suppers(n);
        State without = now.copy().suppers(n);
        return s.eaters.get(one).glad + s.eaters.get(other).glad
            - without.eaters.get(one).glad - without.eaters.get(other).glad;
    }

    int guest(int hunger) {
        if (!in(hunger, 0, 9)) {
            return -2;
        }
        if (now.eaters.size() == 5) {
            return -3;
        }
        State s = now.copy();
        Eater e = new Eater();
        e.hunger = hunger;
        s.eaters.add(e);
        return s.supper().baker;
    }

    long odds(int eater, int part) {
        if (!is(eater) || !in(part, 0, 1)) {
            return Long.MIN_VALUE;
        }
        State s = now.copy().supper();
        int scale = s.scale();
        int most = s.eaters.get(s.baker).eaten / scale;
        long alike = s.eaters.stream().filter(e -> e.eaten / scale == most).count();
        boolean may = s.eaters.get(eater).eaten / scale == most;
        return part == 0 ? may ? 1 : 0 : may ? alike : 1;
    }

    long mean(int n, int part) {
        if (!in(n, 1, 60) || !in(part, 0, 1) || now.eaters.isEmpty()) {
            return Long.MIN_VALUE;
        }
        long above = now.copy().suppers(n).gladOfAll() - now.gladOfAll();
        long below = (long) n * now.eaters.size();
        long common = java.math.BigInteger.valueOf(above).gcd(java.math.BigInteger.valueOf(below)).longValue();
        return (part == 0 ? above : below) / common;
    }

    int book(int n) {
        if (!in(n, -1, 99)) {
            return -2;
        }
        if (n == -1) {
            now.book.clear();
            return 0;
        }
        if (now.book.size() == 12) {
            return -4;
        }
        now.book.add(n);
        return now.book.size();
    }

    int looked() {
        for (int k = 0; k < now.book.size(); k++) {
            if (now.copy().suppers(k + 1).bin != now.book.get(k)) {
                return k;
            }
        }
        return -5;
    }

    int judge(int tape, int i) {
        if (!in(tape, 0, 5)) {
            return -1;
        }
        if (tapes[tape] != null && !(tapes[tape] instanceof int[])) {
            return -12;
        }
        int[] row = tapes[tape] == null ? new int[0] : (int[]) tapes[tape];
        for (int e = 0; e < now.eaters.size(); e++) {
            long place = (long) i + e;
            if (i < 0 || place >= row.length) {
                return 100 + e;
            }
            if (row[(int) place] != now.eaters.get(e).glad) {
                return e;
            }
        }
        return -5;
    }

    int image() {
        image = now.copy();
        return image.eaters.size();
    }

    int undo() {
        if (image == null) {
            return -3;
        }
        now = image.copy();
        return now.eaters.size();
    }

    // ---- acts: the kinds as Java itself has them

    private class Kind0 {
        final int i;
        final int v;

        Kind0(int i, int v) {
            this.i = i;
            this.v = v;
        }

        int eats(int x) {
            trace.add(10);
            return x + i;
        }

        int bakes(int x) {
            trace.add(11);
            return eats(x) - v;
        }

        int tells(int x) {
            trace.add(12);
            return bakes(x) * 2;
        }
    }

    private class Kind1 extends Kind0 {
        Kind1(int i, int v) {
            super(i, v);
        }

        @Override int bakes(int x) {
            trace.add(20);
            return super.bakes(x) ^ 6;
        }
    }

    private class Kind2 extends Kind0 {
        Kind2(int i, int v) {
            super(i, v);
        }

        @Override int eats(int x) {
            trace.add(30);
            return super.eats(x * 3);
        }
    }

    private class Kind3 extends Kind0 {
        Kind3(int i, int v) {
            super(i, v);
        }

        @Override int tells(int x) {
            trace.add(40);
            return super.tells(x) + bakes(1);
        }
    }

    private final class Kind4 extends Kind1 {
        Kind4(int i, int v) {
            super(i, v);
        }

        @Override int eats(int x) {
            trace.add(50);
            return -super.eats(x);
        }

        @Override int bakes(int x) {
            trace.add(51);
            return super.bakes(x + 1);
        }
    }

    private final class Kind5 extends Kind2 {
        Kind5(int i, int v) {
            super(i, v);
        }

        @Override int tells(int x) {
            trace.add(60);
            return super.tells(x - i);
        }
    }

    private final class Kind6 extends Kind3 {
        Kind6(int i, int v) {
            super(i, v);
        }

        @Override int bakes(int x) {
            trace.add(70);
            return super.bakes(x) + super.eats(2);
        }

        @Override int eats(int x) {
            trace.add(71);
            return super.eats(x) ^ v;
        }
    }

    private Kind0 kindOf(int i, Eater e) {
        switch (e.kind) {
            case 0: return new Kind0(i, e.v);
            case 1: return new Kind1(i, e.v);
            case 2: return new Kind2(i, e.v);
            case 3: return new Kind3(i, e.v);
            case 4: return new Kind4(i, e.v);
            case 5: return new Kind5(i, e.v);
            default: return new Kind6(i, e.v);
        }
    }

    int act(int eater, int act, int x) {
        trace.clear();
        if (!is(eater) || !in(act, 0, ACTS.length - 1)) {
            return 0;
        }
        Kind0 kind = kindOf(eater, now.eaters.get(eater));
        return act == 0 ? kind.eats(x) : act == 1 ? kind.bakes(x) : kind.tells(x);
    }

    int trace(int i) {
        return i >= 0 && i < Math.min(20, trace.size()) ? trace.get(i) : -1;
    }

    int taken(int eater, int k) {
        if (!in(k, 0, 6)) {
            return -2;
        }
        if (!is(eater)) {
            return -11;
        }
        for (int kind = now.eaters.get(eater).kind; kind >= 0; kind = ABOVE[kind]) {
            if (kind == k) {
                return now.eaters.get(eater).kind;
            }
        }
        return -12;
    }

    int count(int what) {
        if (!in(what, 0, 4)) {
            return -2;
        }
        return new int[] {now.eaters.size(), houses.size(), now.book.size(), text.length(), trace.size()}[what];
    }

    // ---- tapes: rows as Java itself has them

    int tape(int tape, int sort, int n) {
        if (!in(tape, 0, 5)) {
            return -1;
        }
        if (!in(sort, -1, 4) || (sort >= 0 && n > 60)) {
            return -2;
        }
        try {
            tapes[tape] = sort < 0 ? null : sort == 0 ? new byte[n] : sort == 1 ? new short[n]
                : sort == 2 ? new int[n] : sort == 3 ? new long[n] : new boolean[n];
        } catch (NegativeArraySizeException below) {
            return -14;
        }
        return 1;
    }

    int item(int tape, int i, long v) {
        if (!in(tape, 0, 5)) {
            return -1;
        }
        Object row = tapes[tape];
        if (row == null) {
            return -11;
        }
        if (i < 0 || i >= java.lang.reflect.Array.getLength(row)) {
            return -13;
        }
        if (row instanceof byte[] b) {
            b[i] = (byte) v;
        } else if (row instanceof short[] s) {
            s[i] = (short) v;
        } else if (row instanceof int[] n) {
            n[i] = (int) v;
        } else if (row instanceof long[] l) {
            l[i] = v;
        } else {
            ((boolean[]) row)[i] = v != 0;
        }
        return 1;
    }

    long read(int tape, int i) {
        Object row = in(tape, 0, 5) ? tapes[tape] : null;
        if (row == null || i < 0 || i >= java.lang.reflect.Array.getLength(row)) {
            return Long.MIN_VALUE;
        }
        if (row instanceof boolean[] b) {
            return b[i] ? 1 : 0;
        }
        return java.lang.reflect.Array.getLong(row, i);
    }

    int shift(int tape, int i, int other, int j, int n) {
        if (!in(tape, 0, 5) || !in(other, 0, 5)) {
            return -1;
        }
        try {
            System.arraycopy(tapes[tape], i, tapes[other], j, n);
        } catch (NullPointerException nothing) {
            return -11;
        } catch (ArrayStoreException unlike) {
            return -12;
        } catch (IndexOutOfBoundsException beyond) {
            return -13;
        }
        return n;
    }
}
