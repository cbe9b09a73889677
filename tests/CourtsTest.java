/**
 * A COURT that is read stands in place of the one before, and one that is restored as it was kept: what an
 * object was used for ahead of that shows in nothing that is answered then.
 */
public final class CourtsTest {
    private static final String[] TEXTS = {"c1,0,1;q;", "c1,1,9;k;", "c2,3,1;x0,1;l;k;", "c2,1,3;m0,1;w;",
        "c3,0,2;m0,1;x1,2;w;b;k;", "c4,9,1;m0,1;m1,2;x2,3;k;b;q;", "c5,4,2;m0,2;m3,4;x2,3;x1,4;m1,0;k;w;b;l;k;",
        "c6,0,9;m0,1;m1,2;m2,3;m3,4;m4,5;m5,0;x0,3;x1,4;b;b;", "c6,63,3;k;k;q;b;k;", "c6,0,1;l;b;w;q;k;", "c6,21,1;k;"};

    public static void main(String[] args) {
        for (String before : TEXTS) {
            for (String text : TEXTS) {
                readBehind(before, text);
                restoredBehind(text, before);
            }
        }
        lastOfManyCalls();
        Due.end();
    }

    private static void act(BelievedWords x) {
        for (int i = 0; i < 10; i++) {
            x.say(i % 4, (5 * i + 3) % 12);
        }
        x.strike(0, 1);
        x.pardon(1);
        x.strike(2, 1);
    }

    private static void readBehind(String before, String text) {
        for (int which = Views.NOW; which <= Views.BACK; which++) {
            BelievedWords x = Due.told(before);
            Views.view(x, Views.AHEAD);
            act(x);
            Due.tell(x, text);
            String got = Views.view(x, which);
            String want = Views.view(Due.told(text), which);
            Due.is(text + " behind " + before + " (view " + which + ")", 1, got.equals(want) ? 1 : 0);
            act(x);
            BelievedWords y = Due.told(text);
            Views.view(y, which);
            act(y);
            boolean alike = Views.view(x, Views.NOW).equals(Views.view(y, Views.NOW));
            Due.is(text + " behind " + before + ", and ACTS", 1, alike ? 1 : 0);
        }
    }

    private static void restoredBehind(String text, String other) {
        for (int which = Views.NOW; which <= Views.BACK; which++) {
            BelievedWords x = Due.told(text);
            act(x);
            x.image(1);
            Due.tell(x, other);
            act(x);
            Views.view(x, Views.AHEAD);
            x.restore(1);
            BelievedWords y = Due.told(text);
            act(y);
            y.image(0);
            y.restore(0);
            boolean alike = Views.view(x, which).equals(Views.view(y, which));
            Due.is(text + " restored behind " + other + " (view " + which + ")", 1, alike ? 1 : 0);
        }
    }

    /** An object is used for at most 512 calls: the last of the dearest answers as the first. */
    private static void lastOfManyCalls() {
        BelievedWords x = new BelievedWords();
        int calls = 0;
        for (char c : "c6,21,7;k;b;q;".toCharArray()) {
            x.feed(c);
            calls++;
        }
        x.court();
        int cost = x.cheapest(42, 21, 0);
        int first = x.cheapest(42, 21, 1);
        for (calls += 3; calls < 512; calls++) {
            Due.is("call " + calls, calls % 2 == 0 ? cost : first, x.cheapest(42, 21, calls % 2));
        }
        Due.is("COST is told", 1, cost > 0 ? 1 : 0);
    }
}
