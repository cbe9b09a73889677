/** What the tests share: answers that are due, and texts that are fed whole. */
final class Due {
    static final int NONE = -1000000, BAD = -1000001, STATE = -1000002, FULL = -1000003;
    static final int IS_NULL = -1000011, PLACE = -1000012, KIND = -1000013, SIZE = -1000014, STORE = -1000015;

    private static int right = 0;
    private static int wrong = 0;

    private Due() {
    }

    static void is(String call, long want, long got) {
        if (want == got) {
            right++;
            return;
        }
        wrong++;
        System.out.println(call + " answered " + got + ", due is " + want);
    }

    static int tell(BelievedWords x, String text) {
        for (int i = 0; i < text.length(); i++) {
            x.feed(text.charAt(i));
        }
        return x.court();
    }

    static BelievedWords told(String text) {
        BelievedWords x = new BelievedWords();
        int people = tell(x, text);
        if (people < 1) {
            wrong++;
            System.out.println("the text " + text + " was refused: " + people);
        }
        return x;
    }

    static void row(BelievedWords x, int row, int... items) {
        x.row(row, 2, items.length);
        for (int i = 0; i < items.length; i++) {
            x.set(row, i, items[i]);
        }
    }

    /** An object whose item() can be asked: nothing is SO, nothing was SAID, and one liar is there. */
    static BelievedWords reader() {
        return told("c6,0,1;l;");
    }

    /** ITEM i of a ROW where it is 0, 1, 2, 4, 8, 16 or 32, by what the liar would have SAID; else NONE. */
    static int item(BelievedWords x, int row, int i) {
        int first = x.said(0, row, i, 1, 1);
        return first < 0 ? NONE : first % 2 == 0 ? 0 : 1 << first / 2;
    }

    static void end() {
        System.out.println(right + " answers as due, " + wrong + " not");
        if (wrong != 0 || right == 0) {
            System.exit(1);
        }
    }
}
