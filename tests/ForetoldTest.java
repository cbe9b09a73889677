/** Promises 16 to 26: what is FORETOLD changes nothing, and tells what would be. */
public final class ForetoldTest {
    public static void main(String[] args) {
        makes();
        shortest();
        cheapest();
        idle();
        giveUp();
        order();
        ever();
        said();
        who();
        temper();
        temperEdges();
        drawn();
        nothingChanges();
        Due.end();
    }

    private static void makes() {
        BelievedWords x = Due.told("c3,1,3;m0,1;x1,2;l;b;w;q;k;");
        Due.is("a liar", 3, x.makes(0, 1));
        Due.is("a liar, not CARRIED OUT", Due.NONE, x.makes(0, 5));
        Due.is("a braggart: 2 is not, 0 is not", 0, x.makes(1, 4));
        Due.is("a wit: 2 is, so not", 3, x.makes(2, 5));
        Due.is("a quiet one", 3, x.makes(3, 0));
        Due.is("a child", 0, x.makes(4, 0));
        x.say(3, 0);
        Due.is("a child of what was SAID", 3, x.makes(4, 0));
        Due.is("makes(5,0)", Due.BAD, x.makes(5, 0));
        Due.is("makes(-1,0)", Due.BAD, x.makes(-1, 0));
        Due.is("makes(0,6)", Due.BAD, x.makes(0, 6));
        Due.is("makes(0,-1)", Due.BAD, x.makes(0, -1));
    }

    private static void goals(BelievedWords x, int so, int not, int[] want) {
        Due.is("shortest(" + so + "," + not + ",0)", want[0], x.shortest(so, not, 0));
        Due.is("shortest(" + so + "," + not + ",1)", want[1], x.shortest(so, not, 1));
        Due.is("cheapest(" + so + "," + not + ",0)", want[2], x.cheapest(so, not, 0));
        Due.is("cheapest(" + so + "," + not + ",1)", want[3], x.cheapest(so, not, 1));
    }

    private static void shortest() {
        BelievedWords x = Due.told("c3,0,2;w;b;");
        goals(x, 0, 7, new int[] {0, Due.NONE, 0, Due.NONE});
        goals(x, 1, 0, new int[] {1, 0, 2, 0});
        goals(x, 7, 0, new int[] {2, 0, 6, 0});
        goals(x, 3, 4, new int[] {1, 21, 4, 0});
        goals(x, 5, 2, new int[] {1, 25, 4, 0});
        Due.is("a FACT told as both", Due.BAD, x.shortest(3, 2, 0));
        Due.is("shortest(8,0,0)", Due.BAD, x.shortest(8, 0, 0));
        Due.is("shortest(-1,0,0)", Due.BAD, x.shortest(-1, 0, 0));
        Due.is("shortest(0,8,0)", Due.BAD, x.shortest(0, 8, 0));
        Due.is("shortest(0,-8,0)", Due.BAD, x.shortest(0, -8, 0));
        Due.is("shortest(1,0,2)", Due.BAD, x.shortest(1, 0, 2));
        Due.is("shortest(1,0,-1)", Due.BAD, x.shortest(1, 0, -1));
        // a lone child can say but once of each FACT
        x = Due.told("c2,0,1;x0,1;k;");
        goals(x, 1, 2, new int[] {1, 1, 1, 1});
        x.say(0, 1);
        goals(x, 2, 0, new int[] {Due.NONE, Due.NONE, Due.NONE, Due.NONE});
        x.pardon(0);
        goals(x, 2, 0, new int[] {2, 0, 2, 0});
        // only a saying that is CARRIED OUT leads on, though it is already so
        x = Due.told("c2,3,1;x0,1;q;");
        goals(x, 3, 0, new int[] {0, Due.NONE, 0, Due.NONE});
        goals(x, 1, 2, new int[] {Due.NONE, Due.NONE, Due.NONE, Due.NONE});
    }

    private static void cheapest() {
        // the braggart's short way through all FACTS costs more than the liar's
        BelievedWords x = Due.told("c4,0,9;m0,1;m0,2;b;l;");
        goals(x, 8, 0, new int[] {1, 5, 9, 0});
        // of the least cost the first SAYING by number is one that changes nothing
        x = Due.told("c2,0,3;q;l;");
        goals(x, 2, 0, new int[] {1, 23, 3, 0});
        // a child's SAYING that changes nothing can bar the way: it is no first one
        x = Due.told("c2,1,1;k;");
        goals(x, 0, 1, new int[] {1, 0, 1, 0});
        goals(x, 2, 0, new int[] {1, 3, 1, 1});
        goals(x, 2, 1, new int[] {2, 0, 2, 0});
        Due.is("cheapest: both", Due.BAD, x.cheapest(1, 1, 0));
        Due.is("cheapest(4,0,0)", Due.BAD, x.cheapest(4, 0, 0));
        Due.is("cheapest(0,4,0)", Due.BAD, x.cheapest(0, 4, 0));
        Due.is("cheapest(0,-1,0)", Due.BAD, x.cheapest(0, -1, 0));
        Due.is("cheapest(1,0,2)", Due.BAD, x.cheapest(1, 0, 2));
    }

    private static void idle() {
        BelievedWords x = Due.told("c3,1,1;m0,1;x1,2;l;b;w;q;k;");
        Due.is("RULES have not looked yet", 0, x.idle(3));
        x.say(3, 4);
        Due.is("a liar: 0 is, 1 is, 1 is not, 2 is not", 0b011110, x.idle(0));
        Due.is("a braggart: 0 and 1 are, 1 and 2 are not", 0b000110, x.idle(1));
        Due.is("a wit: 0 is not, 1 either way, 2 is", 0b101101, x.idle(2));
        Due.is("a quiet one", 63, x.idle(3));
        Due.is("a child: of 2 either way", 0b111110, x.idle(4));
        Due.is("idle(5)", Due.BAD, x.idle(5));
        Due.is("idle(-1)", Due.BAD, x.idle(-1));
        x = Due.told("c2,3,1;x0,1;q;l;");
        Due.is("nothing would be CARRIED OUT", 0, x.idle(0));
        Due.is("nothing would be idle", 0, x.idle(1));
    }

    private static void leftOut(BelievedWords x, int facts, int many, int which) {
        Due.is("giveUp(" + facts + ",0)", many, x.giveUp(facts, 0));
        Due.is("giveUp(" + facts + ",1)", which, x.giveUp(facts, 1));
    }

    private static void giveUp() {
        BelievedWords x = Due.told("c5,31,1;x0,1;x1,2;x2,3;m4,0;l;");
        leftOut(x, 0, 0, 0);
        leftOut(x, 5, 0, 0);
        leftOut(x, 3, 1, 1);
        leftOut(x, 7, 1, 2);
        leftOut(x, 15, 2, 5);
        leftOut(x, 18, 1, 2);
        leftOut(x, 31, 2, 6);
        x.strike(1, 1);
        leftOut(x, 15, 2, 5);
        leftOut(x, 14, 1, 4);
        Due.is("giveUp(32,0)", Due.BAD, x.giveUp(32, 0));
        Due.is("giveUp(-1,0)", Due.BAD, x.giveUp(-1, 0));
        Due.is("giveUp(1,2)", Due.BAD, x.giveUp(1, 2));
        x = Due.told("c3,0,1;m0,1;m0,2;x1,2;l;");
        leftOut(x, 1, 1, 1);
        leftOut(x, 7, 2, 3);
    }

    private static void orders(BelievedWords x, int facts, int... due) {
        for (int k = 0; k < due.length; k++) {
            Due.is("order(" + facts + "," + k + ")", due[k], x.order(facts, k));
        }
        Due.is("order(" + facts + "," + due.length + ")", Due.NONE, x.order(facts, due.length));
        Due.is("order(" + facts + ",most)", Due.NONE, x.order(facts, Integer.MAX_VALUE));
    }

    private static void order() {
        BelievedWords x = Due.told("c6,0,1;m0,3;m3,5;m1,0;m4,2;m2,4;x0,5;l;");
        orders(x, 0);
        orders(x, 1, 0);
        orders(x, 0b101011, 5, 3, 0, 1);
        orders(x, 0b100011, 0, 1, 5);
        orders(x, 0b001001, 3, 0);
        orders(x, 0b000110, 1, 2);
        // behind what could be told there is a circle
        orders(x, 0b110101);
        orders(x, 63);
        x.strike(4, 1);
        orders(x, 63, 2, 4, 5, 3, 0, 1);
        Due.is("order(64,0)", Due.BAD, x.order(64, 0));
        Due.is("order(-1,0)", Due.BAD, x.order(-1, 0));
        Due.is("order(1,-1)", Due.BAD, x.order(1, -1));
    }

    private static void ever() {
        BelievedWords x = Due.told("c2,3,1;x0,1;q;");
        Due.is("what is SO already, EVER", 3, x.ever(0));
        Due.is("states", 1, x.ever(1));
        x = Due.told("c3,0,1;m0,1;x1,2;l;");
        Due.is("ever(0)", 7, x.ever(0));
        Due.is("{} 1 01 2", 4, x.ever(1));
        Due.is("ever(2)", Due.BAD, x.ever(2));
        Due.is("ever(-1)", Due.BAD, x.ever(-1));
        x = Due.told("c3,0,1;k;");
        x.say(0, 2);
        Due.is("a child: not 1 any more", 5, x.ever(0));
        Due.is("states", 4, x.ever(1));
        x = Due.told("c6,0,1;l;");
        Due.is("all", 63, x.ever(0));
        Due.is("all states", 64, x.ever(1));
    }

    private static void said() {
        BelievedWords x = Due.told("c2,0,1;l;b;w;q;k;");
        Due.row(x, 0, 0, 1, 3, 3, 2);
        Due.is("a liar: 1 3 3 2", 2, x.said(0, 0, 1, 4, 0));
        Due.is("a liar, the first", 1, x.said(0, 0, 1, 4, 1));
        Due.is("a wit: 0 1 3", 2, x.said(2, 0, 0, 3, 0));
        Due.is("a wit, the first", 1, x.said(2, 0, 0, 3, 1));
        Due.is("a quiet one: 0", 4, x.said(3, 0, 0, 1, 0));
        Due.is("a quiet one: 0 1", 0, x.said(3, 0, 0, 2, 0));
        Due.is("a quiet one: 0 1, the first", Due.NONE, x.said(3, 0, 0, 2, 1));
        Due.is("a braggart: 3", 0, x.said(1, 0, 1, 1, 0));
        Due.is("a child: 0 1 3", 1, x.said(4, 0, 0, 2, 0));
        Due.is("a child: 0 1, the first", 2, x.said(4, 0, 0, 2, 1));
        Due.is("a child: 1 3 3", 4, x.said(4, 0, 1, 3, 0));
        Due.row(x, 1, Due.NONE, -1, 64, 0);
        Due.is("what no FACTS are", 0, x.said(0, 1, 0, 1, 0));
        Due.is("what no FACTS are, the first", Due.NONE, x.said(0, 1, 1, 3, 1));
        x = Due.told("c2,3,1;x0,1;l;q;");
        Due.row(x, 0, Due.NONE, 3, 0, 0, 0, 0);
        Due.is("not CARRIED OUT is no row", 0, x.said(1, 0, 0, 1, 0));
        Due.is("nor as it was", 0, x.said(1, 0, 1, 1, 0));
        Due.is("said(2,..)", Due.BAD, x.said(2, 0, 0, 1, 0));
        Due.is("said(-1,..)", Due.BAD, x.said(-1, 0, 0, 1, 0));
        Due.is("said of row 8", Due.BAD, x.said(0, 8, 0, 1, 0));
        Due.is("said n 0", Due.BAD, x.said(0, 0, 0, 0, 0));
        Due.is("said n 5", Due.BAD, x.said(0, 0, 0, 5, 0));
        Due.is("said what 2", Due.BAD, x.said(0, 0, 0, 1, 2));
        Due.is("said of a missing row", Due.IS_NULL, x.said(0, 1, 9, 1, 0));
        Due.is("said beyond the end", Due.PLACE, x.said(0, 0, 3, 4, 0));
        Due.is("said below 0", Due.PLACE, x.said(0, 0, -1, 1, 0));
        Due.is("said from most", Due.PLACE, x.said(0, 0, Integer.MAX_VALUE, 4, 0));
        x = Due.told("c6,0,1;q;");
        Due.row(x, 0, 0, 0, 0, 0);
        Due.is("all rows of four", 12 * 12 * 12 * 12, x.said(0, 0, 0, 4, 0));
    }

    private static void who() {
        BelievedWords x = Due.told("c3,0,1;x0,1;l;q;");
        Due.row(x, 0, 1, 1, 3, 1, 4, 0);
        Due.is("0 is: 1", 1 << 1 | 1 << 5, x.who(0, 0, 0, 1));
        Due.is("then 1 is, not CARRIED OUT: 1", 1 << 1 | 1 << 5, x.who(1, 0, 0, 2));
        Due.is("then 2 is not: 0", 0, x.who(0, 0, 0, 3));
        Due.row(x, 1, 5, 5, 1, 0, 0, 0);
        Due.is("2 is: 5, a braggart", 1 << 2, x.who(0, 1, 0, 1));
        Due.row(x, 2, 0, 1);
        Due.is("0 is not: 1, a wit", 1 << 3, x.who(0, 2, 0, 1));
        Due.row(x, 3, 1, 0);
        Due.is("0 is: 0, a wit, a quiet one, a braggart not CARRIED OUT", 1 << 2 | 1 << 3 | 1 << 4, x.who(0, 3, 0, 1));
        x.say(1, 1);
        Due.is("and a child, as it was SAID", 1 << 2 | 1 << 3 | 1 << 4 | 1 << 5, x.who(0, 3, 0, 1));
        Due.row(x, 4, 0, 0, 0, 0, 0, 0, 0, 0, 0, 0, 0, 0, 0, 0, 0, 0, 0, 0, 0, 0, 0, 0, 6, 0);
        Due.is("an ITEM that is no SAYING, at the last", Due.BAD, x.who(0, 4, 0, 12));
        Due.is("not where it ought to be", 0b110110, x.who(0, 4, 0, 11));
        x.set(4, 22, 4);
        Due.is("twelve SAYINGS", 0b110110, x.who(0, 4, 0, 12));
        Due.row(x, 5, -1, 0, 0, 77);
        Due.is("an ITEM below 0", Due.BAD, x.who(0, 5, 0, 1));
        Due.is("what no FACTS are fits nobody", 0, x.who(0, 5, 2, 1));
        Due.is("who beyond the end", Due.PLACE, x.who(0, 5, 1, 2));
        Due.is("who beyond the end ahead of a wrong ITEM", Due.PLACE, x.who(0, 5, 0, 3));
        Due.is("who below 0", Due.PLACE, x.who(0, 5, -1, 1));
        Due.is("who of a missing row", Due.IS_NULL, x.who(0, 6, -1, 1));
        Due.is("who of row -1", Due.BAD, x.who(0, -1, 0, 1));
        Due.is("who n 0", Due.BAD, x.who(0, 5, 0, 0));
        Due.is("who n 13", Due.BAD, x.who(0, 5, 0, 13));
        Due.is("who of nobody", Due.BAD, x.who(2, 5, 0, 1));
    }

    private static void chances(BelievedWords x, int facts, int p, int i, int n, long above, long below) {
        String call = "temper(" + facts + "," + p + ",0," + i + "," + n + ",";
        Due.is(call + "0)", above, x.temper(facts, p, 0, i, n, 0));
        Due.is(call + "1)", below, x.temper(facts, p, 0, i, n, 1));
    }

    private static void temper() {
        BelievedWords x = Due.told("c2,0,1;x0,1;l;w;q;");
        Due.row(x, 0, 0, 1, 0, 3, 1, 2, 2, 0, 1, 0, 0, 2);
        chances(x, 1, 3, 0, 1, 7, 10);
        chances(x, 1, 0, 0, 1, 1, 1);
        chances(x, 1, 10, 0, 1, 0, 1);
        chances(x, 0, 5, 0, 6, 1, 1);
        // 1 becomes so if 0 did not: the liar's contrary 3 of 10, then 7 of 10
        chances(x, 2, 3, 0, 2, 21, 100);
        chances(x, 1, 5, 0, 2, 1, 2);
        chances(x, 3, 5, 0, 2, 0, 1);
        // the wit makes 1 so in 6 of 10, unless 0 is
        chances(x, 2, 4, 4, 1, 3, 5);
        chances(x, 2, 4, 6, 1, 0, 1);
    }

    private static void temperEdges() {
        BelievedWords x = Due.told("c2,0,1;l;");
        Due.row(x, 0, 0, 1, 0, 1, 0, 1, 0, 1, 0, 1, 0, 1);
        chances(x, 1, 1, 0, 6, 9, 10);
        Due.row(x, 1, 0, 1, 1, 1, 0, 4, 0, -1, -1, 0);
        Due.is("no PERSON", Due.BAD, x.temper(1, 1, 1, 0, 2, 0));
        Due.is("no SAYING", Due.BAD, x.temper(1, 1, 1, 4, 1, 0));
        Due.is("no SAYING below 0", Due.BAD, x.temper(1, 1, 1, 6, 1, 0));
        Due.is("no PERSON below 0", Due.BAD, x.temper(1, 1, 1, 8, 1, 0));
        Due.is("beyond the end ahead of a wrong ITEM", Due.PLACE, x.temper(1, 1, 1, 0, 6, 0));
        Due.is("below 0", Due.PLACE, x.temper(1, 1, 1, -1, 1, 0));
        Due.is("a missing row", Due.IS_NULL, x.temper(1, 1, 2, -1, 1, 0));
        Due.is("row 8", Due.BAD, x.temper(1, 1, 8, 0, 1, 0));
        Due.is("FACTS 4", Due.BAD, x.temper(4, 1, 0, 0, 1, 0));
        Due.is("FACTS -1", Due.BAD, x.temper(-1, 1, 0, 0, 1, 0));
        Due.is("p 11", Due.BAD, x.temper(1, 11, 0, 0, 1, 0));
        Due.is("p -1", Due.BAD, x.temper(1, -1, 0, 0, 1, 0));
        Due.is("n 0", Due.BAD, x.temper(1, 1, 0, 0, 0, 0));
        Due.is("n 7", Due.BAD, x.temper(1, 1, 0, 0, 7, 0));
        Due.is("what 2", Due.BAD, x.temper(1, 1, 0, 0, 1, 2));
        x = Due.told("c3,0,1;l;b;w;k;");
        Due.row(x, 0, 3, 1, 1, 3, 2, 5, 0, 4, 1, 1, 3, 0);
        // the liar must say the contrary of 2, and the braggart what he was to say of 0 and 1
        chances(x, 7, 3, 0, 6, 21, 100);
    }

    private static void drawn() {
        BelievedWords x = Due.told("c3,5,2;l;w;");
        Due.is("drawn(0,1,0)", 5, x.drawn(0, 1, 0));
        Due.is("drawn(0,1,1)", 0, x.drawn(0, 1, 1));
        // 16807: the wit says 16807 % 6 = 1, so 0 is not
        Due.is("drawn(1,1,0)", 4, x.drawn(1, 1, 0));
        Due.is("drawn(1,1,1)", 2, x.drawn(1, 1, 1));
        // 282475249: the wit says 1 again; 1622650073: the wit says 5, so 2 is not
        Due.is("drawn(2,1,0)", 4, x.drawn(2, 1, 0));
        Due.is("drawn(3,1,0)", 0, x.drawn(3, 1, 0));
        Due.is("drawn(3,1,1)", 4, x.drawn(3, 1, 1));
        x.say(0, 2);
        x.say(0, 3);
        Due.is("COST of these alone", 4, x.drawn(3, 1, 1));
        Due.is("drawn(0,999999,0)", 7, x.drawn(0, 999999, 0));
        Due.is("drawn(60,1,1) is no refusal", 1, x.drawn(60, 1, 1) >= 4 ? 1 : 0);
        Due.is("drawn(-1,1,0)", Due.BAD, x.drawn(-1, 1, 0));
        Due.is("drawn(61,1,0)", Due.BAD, x.drawn(61, 1, 0));
        Due.is("drawn(1,0,0)", Due.BAD, x.drawn(1, 0, 0));
        Due.is("drawn(1,1000000,0)", Due.BAD, x.drawn(1, 1000000, 0));
        Due.is("drawn(1,1,2)", Due.BAD, x.drawn(1, 1, 2));
    }

    private static void nothingChanges() {
        BelievedWords x = Due.told("c4,1,2;m0,1;x0,3;l;b;w;q;k;");
        Due.row(x, 0, 0, 7, 1, 7, 2, 7, 3, 7);
        x.makes(0, 7);
        x.shortest(8, 0, 0);
        x.cheapest(8, 0, 0);
        x.idle(4);
        x.giveUp(15, 0);
        x.order(15, 0);
        x.ever(0);
        x.said(4, 0, 0, 4, 0);
        x.who(4, 0, 0, 4);
        x.temper(15, 5, 0, 0, 4, 0);
        x.drawn(60, 9, 0);
        Due.is("stand(0)", 1, x.stand(0));
        Due.is("stand(1)", 0, x.stand(1));
        Due.is("stand(2)", 0, x.stand(2));
        Due.is("stand(3)", 0, x.stand(3));
        Due.is("count(6)", 0, x.count(6));
        for (int person = 0; person < 5; person++) {
            Due.is("cell(" + person + ")", 0, x.cell(person));
        }
    }
}
