/** What the project's tests share: answers held against what is due, texts fed whole. */
final class Due {
    private final String name;
    private int asked = 0;
    private int wrong = 0;

    Due(String name) {
        this.name = name;
    }

    void is(String call, long got, long want) {
        asked++;
        if (got != want) {
            wrong++;
            System.out.println(name + ": " + call + " answered " + got + ", due is " + want);
        }
    }

    void end() {
        System.out.println(name + ": " + asked + " answers, " + wrong + " not as due");
        if (wrong != 0 || asked == 0) {
            System.exit(1);
        }
    }

    /** Feeds the text and makes it a house: what house() answers. */
    static int house(AteLeast x, String text) {
        for (int k = 0; k < text.length(); k++) {
            x.feed(text.charAt(k));
        }
        return x.house();
    }

    /** A new object with that house ("": none) and eaters of kind, v, hunger. */
    static AteLeast table(String text, int[]... eaters) {
        AteLeast x = new AteLeast();
        if (!text.isEmpty() && house(x, text) != 0) {
            throw new IllegalStateException("no house: " + text);
        }
        for (int[] e : eaters) {
            x.eater(e[0], e[1], e[2]);
        }
        return x;
    }

    static int[] e(int kind, int v, int hunger) {
        return new int[] {kind, v, hunger};
    }

    static void suppers(AteLeast x, int n) {
        for (int k = 0; k < n; k++) {
            x.supper();
        }
    }
}
