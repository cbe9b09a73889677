/**
 * What is refused, or found, changes nothing but status(); nothing changes by what is FORETOLD or looked at.
 * Each such call is made on one of two objects that were told alike; then all that can be seen of both, and
 * all that shows when ACTS are undone, IMAGES restored, the tape read, ROWS read, must be the same.
 */
public final class UnchangedTest {
    private interface Calls {
        long on(BelievedWords x);
    }

    private static final int LEAST = Integer.MIN_VALUE, MOST = Integer.MAX_VALUE;
    private static final long ANY = Long.MIN_VALUE;

    /** What is done ahead of the call that changes nothing. */
    private static Calls history;
    private static int histories = 0;

    public static void main(String[] args) {
        history = UnchangedTest::nothing;
        withoutCourt();
        history = UnchangedTest::fullTape;
        changesNothing("feed", Due.FULL, x -> x.feed('c'));
        changesNothing("feed BAD", Due.BAD, x -> x.feed(256));
        history = UnchangedTest::much;
        rows();
        told();
        done();
        goals();
        foretoldOfFacts();
        foretoldOfRows();
        asked();
        faultsChangeOnlyTheTape();
        Due.is("so many calls that change nothing", 1, histories > 190 ? 1 : 0);
        Due.end();
    }

    // ---- histories

    private static long nothing(BelievedWords x) {
        return 0;
    }

    private static long fullTape(BelievedWords x) {
        Due.tell(x, "c2,1,1;l;");
        for (int i = 0; i < 120; i++) {
            x.feed(i < 9 ? "c2,1,1;l;".charAt(i) : 'l');
        }
        return 0;
    }

    /** ROWS 0 to 3 of all LANES, IMAGE 0, ACTS of each sort, a COURT of a longer text, a TRACE, a FAULT, bytes. */
    private static long much(BelievedWords x) {
        Due.tell(x, "c3,1,2;m0,1;x1,2;w;k;");
        x.say(0, 4);
        x.say(1, 3);
        x.strike(1, 1);
        x.image(0);
        Due.tell(x, "c3,1,2;m0,0");
        Due.tell(x, "c4,1,3;m0,1;m1,2;x0,3;l;b;w;q;k;");
        x.say(0, 3);
        x.say(1, 7);
        x.say(4, 7);
        x.say(3, 0);
        x.pardon(0);
        x.strike(1, 1);
        x.say(2, 2);
        x.strike(2, 1);
        x.strike(2, 0);
        laneOf(x, 0, 0, 1, 2, 4, 0, 8, 16);
        laneOf(x, 1, 1, 4, 2, 0, 1);
        laneOf(x, 2, 2, 0, 1, 2, 2, 1, 5, 4, 1, 32, 3, 16, 2);
        x.row(3, 0, 0);
        x.ask(4, 1);
        x.as(0, 5);
        for (int i = 0; i < 8; i++) {
            x.feed("c2,1,1;l".charAt(i));
        }
        return 0;
    }

    private static void laneOf(BelievedWords x, int row, int lane, int... items) {
        x.row(row, lane, items.length);
        for (int i = 0; i < items.length; i++) {
            x.set(row, i, items[i]);
        }
    }

    // ---- the comparison

    private static void changesNothing(String name, long due, Calls call) {
        histories++;
        for (int which = 0; which < Views.ALL; which++) {
            BelievedWords one = new BelievedWords();
            BelievedWords other = new BelievedWords();
            history.on(one);
            history.on(other);
            int status = one.status();
            long answer = call.on(one);
            if (which == 0) {
                Due.is(name, due == ANY ? answer : due, answer);
                boolean found = answer <= Due.IS_NULL && answer >= Due.STORE;
                boolean free = due == ANY || due >= 0;
                Due.is(name + ": status()", free ? one.status() : found ? -1000010 - answer : status, one.status());
            }
            String got = Views.view(one, which);
            String want = Views.view(other, which);
            Due.is(name + " changes nothing (view " + which + ")", 1, got.equals(want) ? 1 : 0);
        }
    }

    private static void bad(String name, Calls call) {
        changesNothing(name, Due.BAD, call);
    }

    private static void withoutCourt() {
        changesNothing("undo, no COURT", Due.STATE, x -> x.undo());
        bad("say, no COURT", x -> x.say(0, 0));
        bad("pardon, no COURT", x -> x.pardon(0));
        bad("strike, no COURT", x -> x.strike(0, 1));
        changesNothing("stand, no COURT", Due.STATE, x -> x.stand(0));
        bad("rule, no COURT", x -> x.rule(0, 0));
        bad("cell, no COURT", x -> x.cell(0));
        bad("makes, no COURT", x -> x.makes(0, 0));
        changesNothing("shortest, no COURT", Due.STATE, x -> x.shortest(0, 0, 0));
        changesNothing("cheapest, no COURT", Due.STATE, x -> x.cheapest(0, 0, 0));
        bad("idle, no COURT", x -> x.idle(0));
        changesNothing("giveUp, no COURT", Due.STATE, x -> x.giveUp(0, 0));
        changesNothing("order, no COURT", Due.STATE, x -> x.order(0, 0));
        changesNothing("ever, no COURT", Due.STATE, x -> x.ever(0));
        bad("said, no COURT", x -> x.said(0, 0, 0, 1, 0));
        bad("who, no COURT", x -> x.who(0, 0, 0, 1));
        changesNothing("temper, no COURT", Due.STATE, x -> x.temper(0, 0, 0, 0, 1, 0));
        changesNothing("drawn, no COURT", Due.STATE, x -> x.drawn(0, 1, 0));
        changesNothing("image, no COURT", Due.STATE, x -> x.image(0));
        changesNothing("restore, no IMAGE", Due.STATE, x -> x.restore(0));
        bad("kind, no COURT", x -> x.kind(0));
        bad("as, no COURT", x -> x.as(0, 0));
        bad("ask, no COURT", x -> x.ask(0, 0));
        changesNothing("set, no ROW", Due.IS_NULL, x -> x.set(0, 0, 1));
        changesNothing("drop, no ROW", Due.IS_NULL, x -> x.drop(0));
        changesNothing("copy, no ROW", Due.IS_NULL, x -> x.copy(0, 0, 1, 0, 0));
    }

    private static void rows() {
        bad("row behind the last", x -> x.row(8, 0, 1));
        bad("row ahead of the first", x -> x.row(-1, 0, 1));
        bad("row LANE behind the last", x -> x.row(2, 3, 1));
        bad("row LANE ahead of the first", x -> x.row(2, -1, 1));
        bad("row 41 ITEMS", x -> x.row(2, 0, 41));
        changesNothing("row SIZE", Due.SIZE, x -> x.row(2, 0, -1));
        changesNothing("row SIZE of a missing one", Due.SIZE, x -> x.row(5, 0, LEAST));
        bad("set behind the last ROW", x -> x.set(8, 0, 1));
        bad("set ahead of the first ROW", x -> x.set(-1, 0, 1));
        changesNothing("set NULL", Due.IS_NULL, x -> x.set(4, 0, 1));
        changesNothing("set behind the last place", Due.PLACE, x -> x.set(0, 6, 1));
        changesNothing("set ahead of the first place", Due.PLACE, x -> x.set(0, -1, 1));
        changesNothing("set in an empty ROW", Due.PLACE, x -> x.set(3, 0, 1));
        bad("copy from behind the last ROW", x -> x.copy(8, 0, 0, 0, 1));
        bad("copy from ahead of the first ROW", x -> x.copy(-1, 0, 0, 0, 1));
        bad("copy to behind the last ROW", x -> x.copy(0, 0, 8, 0, 1));
        bad("copy to ahead of the first ROW", x -> x.copy(0, 0, -1, 0, 1));
        changesNothing("copy NULL a", Due.IS_NULL, x -> x.copy(4, 0, 0, 0, 1));
        changesNothing("copy NULL b", Due.IS_NULL, x -> x.copy(0, 0, 4, 0, 1));
        changesNothing("copy STORE", Due.STORE, x -> x.copy(0, 0, 1, 0, 1));
        changesNothing("copy i below 0", Due.PLACE, x -> x.copy(0, -1, 0, 1, 1));
        changesNothing("copy j below 0", Due.PLACE, x -> x.copy(0, 0, 0, -1, 1));
        changesNothing("copy n below 0", Due.PLACE, x -> x.copy(0, 3, 0, 1, -1));
        changesNothing("copy beyond a", Due.PLACE, x -> x.copy(0, 3, 0, 0, 4));
        changesNothing("copy beyond b", Due.PLACE, x -> x.copy(0, 0, 0, 3, 4));
        changesNothing("copy beyond an empty b", Due.PLACE, x -> x.copy(0, 0, 3, 0, 1));
        changesNothing("copy of none", 0, x -> x.copy(0, 0, 0, 3, 0));
        bad("drop behind the last ROW", x -> x.drop(8));
        bad("drop ahead of the first ROW", x -> x.drop(-1));
        changesNothing("drop NULL", Due.IS_NULL, x -> x.drop(4));
    }

    private static void told() {
        bad("feed below 0", x -> x.feed(-1));
        bad("feed above 255", x -> x.feed(256));
        changesNothing("fault", 2, x -> x.fault());
        changesNothing("count", 8, x -> x.count(7));
        bad("count behind the last", x -> x.count(8));
        bad("count ahead of the first", x -> x.count(-1));
        changesNothing("status", 3, x -> x.status());
    }

    private static void done() {
        bad("say person behind the last", x -> x.say(5, 1));
        bad("say person ahead of the first", x -> x.say(-1, 1));
        bad("say SAYING behind the last", x -> x.say(0, 8));
        bad("say SAYING ahead of the first", x -> x.say(0, -1));
        bad("pardon behind the last FACT", x -> x.pardon(4));
        bad("pardon ahead of the first FACT", x -> x.pardon(-1));
        changesNothing("pardon of none", Due.STATE, x -> x.pardon(2));
        bad("strike behind the last RULE", x -> x.strike(3, 1));
        bad("strike ahead of the first RULE", x -> x.strike(-1, 1));
        bad("strike on above 1", x -> x.strike(0, 2));
        bad("strike on below 0", x -> x.strike(0, -1));
        changesNothing("strike of what is struck", Due.STATE, x -> x.strike(1, 1));
        changesNothing("strike of what stands", Due.STATE, x -> x.strike(0, 0));
        changesNothing("stand", 1, x -> x.stand(0) > 0 ? 1 : 0);
        bad("stand behind the last", x -> x.stand(4));
        bad("stand ahead of the first", x -> x.stand(-1));
        changesNothing("rule", 1, x -> x.rule(1, 3));
        bad("rule behind the last", x -> x.rule(3, 0));
        bad("rule ahead of the first", x -> x.rule(-1, 0));
        bad("rule what behind the last", x -> x.rule(0, 4));
        bad("rule what ahead of the first", x -> x.rule(0, -1));
        changesNothing("cell", 0, x -> x.cell(0));
        bad("cell behind the last", x -> x.cell(5));
        bad("cell ahead of the first", x -> x.cell(-1));
        bad("image behind the last", x -> x.image(2));
        bad("image ahead of the first", x -> x.image(-1));
        bad("restore behind the last", x -> x.restore(2));
        bad("restore ahead of the first", x -> x.restore(-1));
        changesNothing("restore of none", Due.STATE, x -> x.restore(1));
    }

    private static void goals() {
        for (int what = 0; what <= 1; what++) {
            int w = what;
            changesNothing("shortest", ANY, x -> x.shortest(8, 2, w));
            changesNothing("cheapest", ANY, x -> x.cheapest(8, 2, w));
            bad("shortest FACTS", x -> x.shortest(16, 0, w));
            bad("cheapest FACTS", x -> x.cheapest(16, 0, w));
            bad("shortest FACTS below 0", x -> x.shortest(-1, 0, w));
            bad("cheapest FACTS below 0", x -> x.cheapest(-1, 0, w));
            bad("shortest others", x -> x.shortest(0, 16, w));
            bad("cheapest others", x -> x.cheapest(0, 16, w));
            bad("shortest both", x -> x.shortest(3, 2, w));
            bad("cheapest both", x -> x.cheapest(3, 2, w));
        }
        bad("shortest what above 1", x -> x.shortest(1, 0, 2));
        bad("cheapest what above 1", x -> x.cheapest(1, 0, 2));
        bad("shortest what below 0", x -> x.shortest(1, 0, -1));
        bad("cheapest what below 0", x -> x.cheapest(1, 0, -1));
    }

    private static void foretoldOfFacts() {
        changesNothing("makes of a liar", ANY, x -> x.makes(0, 7));
        changesNothing("makes of a child", ANY, x -> x.makes(4, 5));
        changesNothing("makes, not CARRIED OUT", Due.NONE, x -> x.makes(1, 7));
        bad("makes person behind the last", x -> x.makes(5, 0));
        bad("makes person ahead of the first", x -> x.makes(-1, 0));
        bad("makes SAYING behind the last", x -> x.makes(0, 8));
        bad("makes SAYING ahead of the first", x -> x.makes(0, -1));
        changesNothing("idle", ANY, x -> x.idle(4));
        bad("idle behind the last", x -> x.idle(5));
        bad("idle ahead of the first", x -> x.idle(-1));
        changesNothing("giveUp", ANY, x -> x.giveUp(15, 1));
        bad("giveUp FACTS", x -> x.giveUp(16, 0));
        bad("giveUp FACTS below 0", x -> x.giveUp(-1, 0));
        bad("giveUp what above 1", x -> x.giveUp(15, 2));
        bad("giveUp what below 0", x -> x.giveUp(15, -1));
        changesNothing("order", ANY, x -> x.order(15, 2));
        changesNothing("order of no more", Due.NONE, x -> x.order(15, 4));
        bad("order FACTS", x -> x.order(16, 0));
        bad("order FACTS below 0", x -> x.order(-1, 0));
        bad("order k below 0", x -> x.order(15, -1));
        changesNothing("ever FACTS", ANY, x -> x.ever(0));
        changesNothing("ever states", ANY, x -> x.ever(1));
        bad("ever what above 1", x -> x.ever(2));
        bad("ever what below 0", x -> x.ever(-1));
        changesNothing("drawn", ANY, x -> x.drawn(60, 9, 0));
        changesNothing("drawn COST", ANY, x -> x.drawn(60, 9, 1));
        bad("drawn n above 60", x -> x.drawn(61, 9, 0));
        bad("drawn n below 0", x -> x.drawn(-1, 9, 0));
        bad("drawn SEED above 999999", x -> x.drawn(1, 1000000, 0));
        bad("drawn SEED below 1", x -> x.drawn(1, 0, 0));
        bad("drawn what above 1", x -> x.drawn(1, 1, 2));
        bad("drawn what below 0", x -> x.drawn(1, 1, -1));
    }

    private static void foretoldOfRows() {
        changesNothing("said", ANY, x -> x.said(4, 0, 0, 4, 0));
        changesNothing("said, the first", ANY, x -> x.said(0, 2, 0, 4, 1));
        bad("said person", x -> x.said(5, 0, 0, 4, 0));
        bad("said ROW", x -> x.said(0, 8, 0, 4, 0));
        bad("said n above 4", x -> x.said(0, 0, 0, 5, 0));
        bad("said n below 1", x -> x.said(0, 0, 0, 0, 0));
        bad("said what above 1", x -> x.said(0, 0, 0, 1, 2));
        changesNothing("said NULL", Due.IS_NULL, x -> x.said(0, 4, 0, 1, 0));
        changesNothing("said PLACE", Due.PLACE, x -> x.said(0, 0, 3, 4, 0));
        changesNothing("said PLACE, the most", Due.PLACE, x -> x.said(0, 0, MOST, 4, 0));
        changesNothing("who", ANY, x -> x.who(0, 1, 0, 2));
        bad("who person", x -> x.who(5, 0, 0, 1));
        bad("who ROW", x -> x.who(0, -1, 0, 1));
        bad("who n above 12", x -> x.who(0, 0, 0, 13));
        bad("who n below 1", x -> x.who(0, 0, 0, 0));
        changesNothing("who NULL", Due.IS_NULL, x -> x.who(0, 4, 0, 1));
        changesNothing("who PLACE", Due.PLACE, x -> x.who(0, 0, 5, 1));
        bad("who by an ITEM", x -> x.who(0, 2, 8, 1));
        changesNothing("temper", ANY, x -> x.temper(3, 3, 2, 0, 4, 0));
        bad("temper FACTS", x -> x.temper(16, 3, 2, 0, 4, 0));
        bad("temper p above 10", x -> x.temper(1, 11, 2, 0, 4, 0));
        bad("temper p below 0", x -> x.temper(1, -1, 2, 0, 4, 0));
        bad("temper ROW", x -> x.temper(1, 3, 8, 0, 4, 0));
        bad("temper n above 6", x -> x.temper(1, 3, 2, 0, 7, 0));
        bad("temper n below 1", x -> x.temper(1, 3, 2, 0, 0, 0));
        bad("temper what above 1", x -> x.temper(1, 3, 2, 0, 1, 2));
        changesNothing("temper NULL", Due.IS_NULL, x -> x.temper(1, 3, 4, 0, 1, 0));
        changesNothing("temper PLACE", Due.PLACE, x -> x.temper(1, 3, 2, 7, 6, 0));
        bad("temper by an ITEM that is no PERSON", x -> x.temper(1, 3, 2, 8, 1, 0));
        bad("temper by an ITEM that is no SAYING", x -> x.temper(1, 3, 2, 7, 1, 0));
    }

    private static void asked() {
        changesNothing("kind", 1, x -> x.kind(0));
        bad("kind behind the last", x -> x.kind(5));
        bad("kind ahead of the first", x -> x.kind(-1));
        changesNothing("as", 1, x -> x.as(1, 1));
        changesNothing("as KIND", Due.KIND, x -> x.as(1, 3));
        bad("as person", x -> x.as(5, 0));
        bad("as KIND behind the last", x -> x.as(0, 6));
        bad("as KIND ahead of the first", x -> x.as(0, -1));
        bad("ask person behind the last", x -> x.ask(5, 0));
        bad("ask person ahead of the first", x -> x.ask(-1, 0));
        bad("ask what above 1", x -> x.ask(0, 2));
        bad("ask what below 0", x -> x.ask(0, -1));
        changesNothing("trace", 23, x -> x.trace(0));
        changesNothing("trace of no more", Due.NONE, x -> x.trace(16));
        changesNothing("trace ahead of the first", Due.NONE, x -> x.trace(-1));
    }

    /** 7: all but the tape, and what fault() tells, stays. Both end with the same FAULT and an empty tape. */
    private static void faultsChangeOnlyTheTape() {
        String[] faults = {"", "c", "c4,1,3;m0,1;l;b;w;q;k;l;", "c4,1,3;m0,1;m0,1;", "c6,63,9;x0,1;l", "c2,1,1;l;m"};
        for (String text : faults) {
            Calls before = history;
            history = x -> before.on(x) + x.court() + Due.tell(x, "c9");
            changesNothing("court of " + text, ANY, x -> {
                long answer = Due.tell(x, text);
                Due.tell(x, "c9");
                return answer;
            });
            history = before;
        }
    }
}
