/**
 * Calls by any numbers whatever: none throws, each ends, and what is refused, found or foretold changes
 * nothing but status().
 */
public final class WildTest {
    private static final int[] EDGES = {Integer.MIN_VALUE, Integer.MIN_VALUE + 1, -1000000, -65, -41, -2, -1, 0, 0, 0, 0,
        1, 1, 1, 2, 2, 3, 4, 5, 6, 7, 8, 9, 10, 11, 12, 13, 15, 16, 23, 24, 31, 39, 40, 41, 60, 61, 63, 64, 99, 109,
        255, 256, 999999, 1000000, 2147483646, Integer.MAX_VALUE};
    private static final String[] TEXTS = {"c1,0,1;q;", "c2,3,1;x0,1;l;k;", "c3,0,2;m0,1;x1,2;w;b;k;",
        "c6,0,9;m0,1;m1,2;m2,3;m3,4;m4,5;m5,0;x0,3;x1,4;k;l;b;w;q;", "c5,4,2;m0,2;m3,4;x2,3;x1,4;m1,0;k;w;b;l;k;",
        "c6,63,3;k;l;b;w;q;", "c7", "", "c1,1,1;m0,0;l;"};
    private static final int FIRST_TOLD = 8, FIRST_FORETOLD = 14, FIRST_KEPT = 25, FIRST_ASKED = 27;
    private static long seed = 7;

    public static void main(String[] args) {
        for (int run = 0; run < 150; run++) {
            oneRun();
        }
        Due.end();
    }

    private static int pick(int n) {
        seed = seed * 6364136223846793005L + 1442695040888963407L;
        return (int) ((seed >>> 33) % n);
    }

    private static int any() {
        int kind = pick(10);
        return kind == 0 ? (int) (seed >>> 20) : kind < 6 ? pick(7) : EDGES[pick(EDGES.length)];
    }

    private static void oneRun() {
        BelievedWords x = new BelievedWords();
        for (int i = 0; i < 250; i++) {
            if (pick(25) == 0) {
                Due.tell(x, TEXTS[pick(TEXTS.length)]);
            }
            int what = pick(33);
            int[] a = {any(), any(), any(), any(), any(), any()};
            String before = shape(x);
            int status = x.status();
            long answer = call(x, what, a);
            boolean refused = answer <= Due.BAD && answer >= Due.FULL;
            boolean found = answer <= Due.IS_NULL && answer >= Due.STORE && isOfRows(what);
            boolean foretold = what >= FIRST_FORETOLD && what < FIRST_KEPT;
            if ((refused || found || foretold) && what != 5) {
                String name = "call " + what + " by " + java.util.Arrays.toString(a) + " left all as it was";
                Due.is(name, 1, before.equals(shape(x)) ? 1 : 0);
            }
            if (isOfRows(what) && !refused) {
                Due.is("status() behind call " + what, found ? -1000010 - answer : 0, x.status());
            } else {
                Due.is("status() behind call " + what, status, x.status());
            }
        }
    }

    private static boolean isOfRows(int what) {
        return what < 4 || what == 21 || what == 22 || what == 23 || what == 28;
    }

    /** All that can be seen, but status(). */
    private static String shape(BelievedWords x) {
        StringBuilder s = new StringBuilder();
        for (int i = 0; i < 16; i++) {
            s.append(x.trace(i)).append(' ').append(x.count(i)).append(' ').append(x.stand(i)).append(' ');
            s.append(x.cell(i)).append(' ').append(x.kind(i)).append(' ').append(x.rule(i, 0)).append(' ');
            s.append(x.rule(i, 1)).append(' ').append(x.rule(i, 2)).append(' ').append(x.rule(i, 3)).append(' ');
        }
        return s.append(x.fault()).toString();
    }

    private static long call(BelievedWords x, int what, int[] a) {
        return what < FIRST_TOLD ? callOfRows(x, what, a)
            : what < FIRST_FORETOLD ? callDone(x, what, a)
            : what < FIRST_ASKED ? callForetold(x, what, a) : callAsked(x, what, a);
    }

    private static long callOfRows(BelievedWords x, int what, int[] a) {
        switch (what) {
            case 0: return x.row(a[0], a[1], a[2]);
            case 1: return x.set(a[0], a[1], a[2]);
            case 2: return x.copy(a[0], a[1], a[2], a[3], a[4]);
            case 3: return x.drop(a[0]);
            case 4: return x.feed(a[0]);
            case 5: return x.court();
            case 6: return x.fault();
            default: return x.undo();
        }
    }

    private static long callDone(BelievedWords x, int what, int[] a) {
        switch (what) {
            case 8: return x.say(a[0], a[1]);
            case 9: return x.pardon(a[0]);
            case 10: return x.strike(a[0], a[1]);
            case 11: return x.stand(a[0]);
            case 12: return x.rule(a[0], a[1]);
            default: return x.cell(a[0]);
        }
    }

    private static long callForetold(BelievedWords x, int what, int[] a) {
        switch (what) {
            case 14: return x.makes(a[0], a[1]);
            case 15: return x.shortest(a[0], a[1], a[2]);
            case 16: return x.cheapest(a[0], a[1], a[2]);
            case 17: return x.idle(a[0]);
            case 18: return x.giveUp(a[0], a[1]);
            case 19: return x.order(a[0], a[1]);
            case 20: return x.ever(a[0]);
            case 21: return x.said(a[0], a[1], a[2], a[3], a[4]);
            case 22: return x.who(a[0], a[1], a[2], a[3]);
            case 23: return x.temper(a[0], a[1], a[2], a[3], a[4], a[5]);
            case 24: return x.drawn(a[0], a[1], a[2]);
            case 25: return x.image(a[0]);
            default: return x.restore(a[0]);
        }
    }

    private static long callAsked(BelievedWords x, int what, int[] a) {
        switch (what) {
            case 27: return x.kind(a[0]);
            case 28: return x.as(a[0], a[1]);
            case 29: return x.ask(a[0], a[1]);
            case 30: return x.trace(a[0]);
            case 31: return x.count(a[0]);
            default: return x.status();
        }
    }
}
