/** The boundary cases of what is FORETOLD by a ROW or a SEED: promises 23 to 26. One test for each. */
public final class EdgesOfRowsForetoldTest {
    private static final int LEAST = Integer.MIN_VALUE, MOST = Integer.MAX_VALUE;

    public static void main(String[] args) {
        said();
        saidOfNone();
        saidRefused();
        who();
        whoByItems();
        whoRefused();
        temper();
        temperInLowestTerms();
        temperByItems();
        temperRefused();
        drawn();
        drawnFar();
        drawnRefused();
        Due.end();
    }

    // ---- 23 said

    private static BelievedWords told(String text, int... items) {
        BelievedWords x = Due.told(text);
        Due.row(x, 0, items);
        return x;
    }

    private static void said(String sentence, BelievedWords x, int person, int n, int many, int first) {
        Due.is("23 " + sentence, many, x.said(person, 0, 0, n, 0));
        Due.is("23 " + sentence + ": the first", first, x.said(person, 0, 0, n, 1));
    }

    private static void said() {
        said("one SAYING", told("c6,0,1;l;", 32), 0, 1, 1, 11);
        said("four SAYINGS", told("c6,0,1;l;", 32, 33, 1, 3), 0, 4, 1, 11);
        said("by one of several the first", told("c2,0,1;l;", 0), 0, 1, 2, 0);
        said("rows, not SAYINGS", told("c2,0,1;l;", 0, 0), 0, 2, 4, 0);
        said("the first SAYING of the last person", told("c2,0,1;q;q;l;", 1), 2, 1, 1, 1);
        said("the first of the first person", told("c2,0,1;q;q;l;", 0), 0, 1, 4, 0);
        said("the most rows", told("c6,0,1;q;", 0, 0, 0, 0), 0, 4, 12 * 12 * 12 * 12, 0);
        said("the first one's first, not the least of all", told("c2,0,1;l;", 2, 3), 0, 2, 1, 3);
        said("a child's own SAYINGS bind it", told("c2,0,1;k;", 1, 1), 0, 2, 1 + 1 + 1, 1);
        said("a child's idle SAYINGS, too", told("c2,0,1;k;", 0, 1), 0, 2, 1, 2);
        said("what RULES make SO by any SAYING", told("c2,1,1;m0,1;q;", 3, 3), 0, 2, 16, 0);
        BelievedWords x = told("c1,0,1;l;k;", 0, 1);
        x.say(0, 0);
        said("from now on: a child was told", x, 1, 1, 2, 0);
        said("from now on: a child can not", x, 1, 2, 0, Due.NONE);
        x = told("c2,0,1;l;", 9, 9, 1, 3);
        Due.is("23 ITEMS from i on", 1, x.said(0, 0, 2, 2, 0));
        Due.is("23 ITEMS up to the last", 1, x.said(0, 0, 2, 2, 1));
        x.row(1, 0, 40);
        Due.is("23 the last four of forty", 16, x.said(0, 1, 36, 4, 0));
        x.row(7, 1, 1);
        Due.is("23 the last ROW", 2, x.said(0, 7, 0, 1, 0));
    }

    private static void saidOfNone() {
        said("no such row", told("c2,0,1;q;", 1), 0, 1, 0, Due.NONE);
        said("none but for the last", told("c2,0,1;l;", 1, 3, 2, 1), 0, 4, 0, Due.NONE);
        said("not CARRIED OUT, as it was", told("c2,3,1;x0,1;q;", 3), 0, 1, 0, Due.NONE);
        said("not CARRIED OUT on the way", told("c2,1,1;x0,1;l;", 1, 2), 0, 2, 0, Due.NONE);
        said("not CARRIED OUT, and an ITEM that is as NONE", told("c2,3,1;x0,1;q;", Due.NONE), 0, 1, 0, Due.NONE);
        said("an ITEM that is no set of FACTS", told("c2,0,1;l;", 4), 0, 1, 0, Due.NONE);
        said("an ITEM below 0", told("c2,0,1;l;", -1), 0, 1, 0, Due.NONE);
        said("an ITEM, the most", told("c6,63,1;l;", MOST), 0, 1, 0, Due.NONE);
        said("an ITEM, the least", told("c6,0,1;l;", LEAST), 0, 1, 0, Due.NONE);
        said("an ITEM 64 above", told("c6,0,1;q;", 64), 0, 1, 0, Due.NONE);
    }

    private static void saidRefused() {
        BelievedWords x = told("c2,0,1;l;q;", 0, 0, 0, 0);
        Due.is("23 no COURT, so no PERSON", Due.BAD, new BelievedWords().said(0, 0, 0, 1, 0));
        Due.is("23 a person behind the last", Due.BAD, x.said(2, 0, 0, 1, 0));
        Due.is("23 a person ahead of the first", Due.BAD, x.said(-1, 0, 0, 1, 0));
        Due.is("23 a ROW behind the last", Due.BAD, x.said(0, 8, 0, 1, 0));
        Due.is("23 a ROW ahead of the first", Due.BAD, x.said(0, -1, 0, 1, 0));
        Due.is("23 n below 1", Due.BAD, x.said(0, 0, 0, 0, 0));
        Due.is("23 n below 0", Due.BAD, x.said(0, 0, 0, -1, 0));
        Due.is("23 n above 4", Due.BAD, x.said(0, 0, 0, 5, 0));
        Due.is("23 n, the most", Due.BAD, x.said(0, 0, 0, MOST, 0));
        Due.is("23 n, the least", Due.BAD, x.said(0, 0, 0, LEAST, 0));
        Due.is("23 what above 1", Due.BAD, x.said(0, 0, 0, 1, 2));
        Due.is("23 what below 0", Due.BAD, x.said(0, 0, 0, 1, -1));
        Due.is("23 a missing ROW", Due.IS_NULL, x.said(0, 1, 0, 1, 0));
        Due.is("23 BAD person ahead of NULL", Due.BAD, x.said(2, 1, 0, 1, 0));
        Due.is("23 BAD n ahead of NULL", Due.BAD, x.said(0, 1, 0, 5, 0));
        Due.is("23 BAD what ahead of NULL", Due.BAD, x.said(0, 1, 0, 1, 2));
        Due.is("23 BAD what ahead of PLACE", Due.BAD, x.said(0, 0, 4, 1, 2));
        Due.is("23 NULL ahead of PLACE", Due.IS_NULL, x.said(0, 1, -1, 1, 0));
        Due.is("23 i below 0", Due.PLACE, x.said(0, 0, -1, 1, 0));
        Due.is("23 i at the end", Due.PLACE, x.said(0, 0, 4, 1, 0));
        Due.is("23 one beyond the end", Due.PLACE, x.said(0, 0, 1, 4, 0));
        Due.is("23 all up to the end", 16, x.said(0, 0, 0, 4, 0));
        Due.is("23 i, the most", Due.PLACE, x.said(0, 0, MOST, 4, 0));
        Due.is("23 i, the least", Due.PLACE, x.said(0, 0, LEAST, 4, 0));
        x.row(2, 0, 0);
        Due.is("23 an empty ROW", Due.PLACE, x.said(0, 2, 0, 1, 0));
    }

    // ---- 24 who: KINDS (bits 1 to 5)

    private static final int L = 2, B = 4, W = 8, Q = 16, K = 32;

    private static void who() {
        Due.is("24 all KINDS", L | B | W | Q | K, told("c3,3,1;x0,1;l;", 5, 3).who(0, 0, 0, 1));
        Due.is("24 no KIND", 0, told("c2,0,1;l;", 1, 2).who(0, 0, 0, 1));
        Due.is("24 bit 1 to 5: a liar and a child", L | K, told("c2,0,1;q;", 1, 1).who(0, 0, 0, 1));
        Due.is("24 a braggart", B, told("c2,0,1;q;", 1, 3).who(0, 0, 0, 1));
        Due.is("24 a wit", W, told("c2,0,1;q;", 0, 1).who(0, 0, 0, 1));
        Due.is("24 a quiet one and a wit", W | Q, told("c2,0,1;l;", 1, 0).who(0, 0, 0, 1));
        Due.is("24 a child that was told by itself, a liar no more", K, told("c2,0,1;l;", 1, 1, 0, 1).who(0, 0, 0, 2));
        Due.is("24 CARRIED OUT or not", L | B | W | Q | K, told("c2,1,1;x0,1;l;", 3, 1).who(0, 0, 0, 1));
        Due.is("24 a child was told by what was not CARRIED OUT", K,
            told("c3,7,1;x0,2;l;", 2, 7, 0, 6, 2, 6).who(0, 0, 0, 3));
        Due.is("24 a liar was not", L, told("c3,7,1;x0,2;l;", 2, 7, 0, 6, 2, 4).who(0, 0, 0, 3));
        BelievedWords x = told("c2,0,1;l;q;", 1, 1);
        Due.is("24 of whomever", L | K, x.who(0, 0, 0, 1));
        Due.is("24 of whomever, the last", L | K, x.who(1, 0, 0, 1));
        x.say(1, 1);
        Due.is("24 from now on: a child was told", L, x.who(0, 0, 0, 1));
    }

    private static int[] idle(int sayings) {
        int[] items = new int[2 * sayings];
        for (int i = 0; i < sayings; i++) {
            items[2 * i] = 2 * (i % 6);
        }
        return items;
    }

    private static void whoByItems() {
        Due.is("24 n 1", L | B | Q | K, told("c6,0,1;l;", idle(1)).who(0, 0, 0, 1));
        Due.is("24 n 12", L | B | Q | K, told("c6,0,1;l;", idle(12)).who(0, 0, 0, 12));
        BelievedWords x = told("c6,0,1;l;", idle(20));
        Due.is("24 the last twelve of twenty", L | B | Q | K, x.who(0, 0, 16, 12));
        Due.is("24 i 17", Due.PLACE, x.who(0, 0, 17, 12));
        Due.is("24 from an odd place", L | B | Q | K, told("c6,0,1;l;", 77, 0, 0).who(0, 0, 1, 1));
        Due.is("24 the last SAYING", L | K, told("c6,0,1;l;", 11, 32).who(0, 0, 0, 1));
        Due.is("24 an ITEM behind the last SAYING", Due.BAD, told("c6,0,1;l;", 12, 32).who(0, 0, 0, 1));
        Due.is("24 an ITEM ahead of the first SAYING", Due.BAD, told("c6,0,1;l;", -1, 0).who(0, 0, 0, 1));
        Due.is("24 an ITEM, the most", Due.BAD, told("c6,0,1;l;", MOST, 0).who(0, 0, 0, 1));
        Due.is("24 an ITEM, the least", Due.BAD, told("c6,0,1;l;", LEAST, 0).who(0, 0, 0, 1));
        Due.is("24 an ITEM that is no SAYING behind what fits nobody", Due.BAD,
            told("c2,0,1;l;", 1, 2, 4, 0).who(0, 0, 0, 2));
        Due.is("24 an ITEM that is no SAYING behind the n", 0, told("c2,0,1;l;", 1, 2, 4, 0).who(0, 0, 0, 1));
        Due.is("24 what is SO is no set of FACTS", 0, told("c2,0,1;l;", 1, 4).who(0, 0, 0, 1));
        Due.is("24 what is SO is below 0", 0, told("c2,0,1;l;", 1, -1).who(0, 0, 0, 1));
        Due.is("24 what is SO is as NONE", 0, told("c2,3,1;x0,1;l;", 1, Due.NONE).who(0, 0, 0, 1));
    }

    private static void whoRefused() {
        BelievedWords x = told("c2,0,1;l;q;", 0, 0, 0, 0);
        Due.is("24 no COURT, so no PERSON", Due.BAD, new BelievedWords().who(0, 0, 0, 1));
        Due.is("24 a person behind the last", Due.BAD, x.who(2, 0, 0, 1));
        Due.is("24 a person ahead of the first", Due.BAD, x.who(-1, 0, 0, 1));
        Due.is("24 a ROW behind the last", Due.BAD, x.who(0, 8, 0, 1));
        Due.is("24 a ROW ahead of the first", Due.BAD, x.who(0, -1, 0, 1));
        Due.is("24 n below 1", Due.BAD, x.who(0, 0, 0, 0));
        Due.is("24 n below 0", Due.BAD, x.who(0, 0, 0, -1));
        Due.is("24 n above 12", Due.BAD, x.who(0, 0, 0, 13));
        Due.is("24 n whose twice is as 2", Due.BAD, x.who(0, 0, 0, LEAST + 1));
        Due.is("24 n, the most", Due.BAD, x.who(0, 0, 0, MOST));
        Due.is("24 BAD n ahead of NULL", Due.BAD, x.who(0, 1, 0, 13));
        Due.is("24 a missing ROW", Due.IS_NULL, x.who(0, 1, 0, 1));
        Due.is("24 NULL ahead of PLACE", Due.IS_NULL, x.who(0, 1, -1, 1));
        Due.is("24 all up to the end", L | B | Q | K, x.who(0, 0, 0, 2));
        Due.is("24 two beyond the end", Due.PLACE, x.who(0, 0, 0, 3));
        Due.is("24 one beyond the end", Due.PLACE, x.who(0, 0, 1, 2));
        Due.is("24 half beyond the end", Due.PLACE, x.who(0, 0, 3, 1));
        Due.is("24 i below 0", Due.PLACE, x.who(0, 0, -1, 1));
        Due.is("24 i, the most", Due.PLACE, x.who(0, 0, MOST, 12));
        Due.is("24 i, the least", Due.PLACE, x.who(0, 0, LEAST, 12));
        x.set(0, 0, 99);
        Due.is("24 PLACE ahead of an ITEM", Due.PLACE, x.who(0, 0, 0, 3));
        x.row(2, 0, 0);
        Due.is("24 an empty ROW", Due.PLACE, x.who(0, 2, 0, 1));
        x.row(7, 2, 2);
        Due.is("24 the last ROW", L | B | Q | K, x.who(0, 7, 0, 1));
    }

    // ---- 25 temper

    private static void temper(String sentence, BelievedWords x, int facts, int p, int n, long above, long below) {
        Due.is("25 " + sentence + ": above", above, x.temper(facts, p, 0, 0, n, 0));
        Due.is("25 " + sentence + ": below", below, x.temper(facts, p, 0, 0, n, 1));
    }

    private static void temper() {
        temper("p 0", told("c1,0,1;l;", 0, 1), 1, 0, 1, 1, 1);
        temper("p 10", told("c1,0,1;l;", 0, 1), 1, 10, 1, 0, 1);
        temper("p 10 of the contrary", told("c1,0,1;l;", 0, 0), 1, 10, 1, 1, 1);
        temper("p 1", told("c1,0,1;l;", 0, 1), 1, 1, 1, 9, 10);
        temper("p 9", told("c1,0,1;l;", 0, 1), 1, 9, 1, 1, 10);
        temper("a wit", told("c1,0,1;w;", 0, 0), 1, 3, 1, 7, 10);
        temper("a quiet one", told("c1,0,1;q;", 0, 1), 1, 3, 1, 0, 1);
        temper("what is SO by whatever is SAID", told("c1,1,1;q;", 0, 0), 1, 3, 1, 1, 1);
        temper("no FACTS are always SO", told("c1,0,1;l;", 0, 0), 0, 3, 1, 1, 1);
        temper("all of six", told("c6,31,1;l;", 0, 11), 63, 3, 1, 7, 10);
        temper("n 6", told("c6,0,1;l;", 0, 1, 0, 3, 0, 5, 0, 7, 0, 9, 0, 11), 63, 1, 6, 531441, 1000000);
        temper("n 6, one case of a million", told("c6,0,1;l;", 0, 1, 0, 3, 0, 5, 0, 7, 0, 9, 0, 11), 63, 9, 6, 1, 1000000);
        temper("in the end, not on the way", told("c1,0,1;l;", 0, 1, 0, 0), 1, 1, 2, 1, 10);
        temper("CARRIED OUT or not", told("c2,1,1;x0,1;l;", 0, 3), 1, 3, 1, 1, 1);
        temper("the last person, the last SAYING", told("c6,0,1;q;q;q;q;l;", 4, 11), 32, 3, 1, 7, 10);
        temper("a child was told by its first, either way", told("c1,0,1;k;", 0, 1, 0, 0), 1, 3, 2, 7, 10);
        BelievedWords x = told("c1,0,1;k;", 0, 1);
        x.say(0, 0);
        temper("from now on: a child was told", x, 1, 3, 1, 0, 1);
    }

    private static void temperInLowestTerms() {
        temper("a half", told("c1,0,1;l;", 0, 1), 1, 5, 1, 1, 2);
        temper("a fifth", told("c1,0,1;l;", 0, 1), 1, 8, 1, 1, 5);
        temper("two fifths", told("c1,0,1;l;", 0, 1), 1, 6, 1, 2, 5);
        temper("a quarter", told("c2,0,1;l;", 0, 1, 0, 3), 3, 5, 2, 1, 4);
        temper("a 64th", told("c6,0,1;l;", 0, 1, 0, 3, 0, 5, 0, 7, 0, 9, 0, 11), 63, 5, 6, 1, 64);
        temper("0 is 0 by 1", told("c1,0,1;q;", 0, 1, 0, 1, 0, 1, 0, 1, 0, 1, 0, 1), 1, 5, 6, 0, 1);
        temper("1 is 1 by 1", told("c1,1,1;q;", 0, 1, 0, 1, 0, 1, 0, 1, 0, 1, 0, 1), 1, 7, 6, 1, 1);
        temper("0 by p 10", told("c1,0,1;l;", 0, 1, 0, 1, 0, 1), 1, 10, 3, 0, 1);
        // 0 is at the last, or is not and was not said so before: 7 of 10 whatever came ahead
        temper("of many the last", told("c1,0,1;l;", 0, 0, 0, 1, 0, 0, 0, 1, 0, 0, 0, 1), 1, 3, 6, 7, 10);
    }

    private static void temperByItems() {
        BelievedWords x = told("c2,0,1;l;q;", 0, 1, 1, 1);
        Due.is("25 the last person", 7, x.temper(1, 3, 0, 0, 2, 0));
        x = told("c2,0,1;l;q;", 0, 1, 2, 1);
        Due.is("25 an ITEM behind the last person", Due.BAD, x.temper(1, 3, 0, 0, 2, 0));
        Due.is("25 an ITEM behind the n", 7, x.temper(1, 3, 0, 0, 1, 0));
        x = told("c2,0,1;l;q;", -1, 1);
        Due.is("25 an ITEM ahead of the first person", Due.BAD, x.temper(1, 3, 0, 0, 1, 0));
        x = told("c2,0,1;l;q;", 0, 4);
        Due.is("25 an ITEM behind the last SAYING", Due.BAD, x.temper(1, 3, 0, 0, 1, 0));
        x = told("c2,0,1;l;q;", 0, -1);
        Due.is("25 an ITEM ahead of the first SAYING", Due.BAD, x.temper(1, 3, 0, 0, 1, 1));
        x = told("c2,0,1;l;q;", 0, 1, 0, MOST);
        Due.is("25 an ITEM, the most", Due.BAD, x.temper(1, 3, 0, 0, 2, 0));
        x = told("c2,0,1;l;q;", LEAST, 1);
        Due.is("25 an ITEM, the least", Due.BAD, x.temper(1, 3, 0, 0, 1, 0));
        x = told("c2,0,1;l;", 9, 0, 3, 0, 1);
        Due.is("25 ITEMS from i on", 49, x.temper(3, 3, 0, 1, 2, 0));
        x.row(1, 0, 40);
        Due.is("25 the last twelve of forty", 1, x.temper(0, 3, 1, 28, 6, 0));
        Due.is("25 i 29", Due.PLACE, x.temper(0, 3, 1, 29, 6, 0));
        x.row(7, 1, 2);
        Due.is("25 the last ROW", 1, x.temper(0, 3, 7, 0, 1, 1));
    }

    private static void temperRefused() {
        BelievedWords none = new BelievedWords();
        none.row(0, 0, 2);
        Due.is("25 no COURT", Due.STATE, none.temper(0, 0, 0, 0, 1, 0));
        Due.is("25 STATE ahead of BAD", Due.STATE, none.temper(-1, 11, 8, 0, 7, 2));
        Due.is("25 STATE ahead of NULL", Due.STATE, none.temper(0, 0, 1, 0, 1, 0));
        BelievedWords x = told("c2,0,1;l;", 0, 1, 0, 3);
        Due.is("25 FACTS of no FACT", Due.BAD, x.temper(4, 0, 0, 0, 1, 0));
        Due.is("25 FACTS below 0", Due.BAD, x.temper(-1, 0, 0, 0, 1, 0));
        Due.is("25 p above 10", Due.BAD, x.temper(1, 11, 0, 0, 1, 0));
        Due.is("25 p below 0", Due.BAD, x.temper(1, -1, 0, 0, 1, 0));
        Due.is("25 a ROW behind the last", Due.BAD, x.temper(1, 0, 8, 0, 1, 0));
        Due.is("25 a ROW ahead of the first", Due.BAD, x.temper(1, 0, -1, 0, 1, 0));
        Due.is("25 n below 1", Due.BAD, x.temper(1, 0, 0, 0, 0, 0));
        Due.is("25 n above 6", Due.BAD, x.temper(1, 0, 0, 0, 7, 0));
        Due.is("25 n, the least", Due.BAD, x.temper(1, 0, 0, 0, LEAST, 0));
        Due.is("25 what above 1", Due.BAD, x.temper(1, 0, 0, 0, 1, 2));
        Due.is("25 what below 0", Due.BAD, x.temper(1, 0, 0, 0, 1, -1));
        Due.is("25 BAD p ahead of NULL", Due.BAD, x.temper(1, 11, 1, 0, 1, 0));
        Due.is("25 BAD what ahead of PLACE", Due.BAD, x.temper(1, 0, 0, 9, 1, 2));
        Due.is("25 a missing ROW", Due.IS_NULL, x.temper(1, 0, 1, 0, 1, 0));
        Due.is("25 NULL ahead of PLACE", Due.IS_NULL, x.temper(1, 0, 1, -1, 1, 0));
        Due.is("25 i below 0", Due.PLACE, x.temper(1, 0, 0, -1, 1, 0));
        Due.is("25 half beyond the end", Due.PLACE, x.temper(1, 0, 0, 3, 1, 0));
        Due.is("25 one beyond the end", Due.PLACE, x.temper(1, 0, 0, 1, 2, 0));
        Due.is("25 all up to the end", 1, x.temper(3, 0, 0, 0, 2, 0));
        Due.is("25 i, the most", Due.PLACE, x.temper(1, 0, 0, MOST, 6, 0));
        Due.is("25 i, the least", Due.PLACE, x.temper(1, 0, 0, LEAST, 6, 0));
        x.set(0, 0, 9);
        Due.is("25 PLACE ahead of an ITEM", Due.PLACE, x.temper(1, 0, 0, 0, 3, 0));
        x.row(2, 0, 0);
        Due.is("25 an empty ROW", Due.PLACE, x.temper(1, 0, 2, 0, 1, 0));
    }

    // ---- 26 drawn

    private static void drawn() {
        BelievedWords x = Due.told("c6,5,9;l;");
        Due.is("26 n 0: what is SO", 5, x.drawn(0, 1, 0));
        Due.is("26 n 0: no COST", 0, x.drawn(0, 1, 1));
        // 16807 by 12 leaves 7: FACT 3 is
        Due.is("26 SEED 1", 13, x.drawn(1, 1, 0));
        Due.is("26 SEED 1: COST", 9, x.drawn(1, 1, 1));
        // 999999 times 16807 is 16806983193, by 2147483647 it leaves 1774597664, by 12 that leaves 8: 4 is not
        Due.is("26 SEED 999999", 5, x.drawn(1, 999999, 0));
        Due.is("26 SEED 999999: COST", 0, x.drawn(1, 999999, 1));
        x.say(0, 3);
        Due.is("26 from now on", 15, x.drawn(1, 1, 0));
        Due.is("26 COST of these alone", 9, x.drawn(1, 1, 1));
        x = Due.told("c2,2,1;x0,1;l;");
        // 16807 by 4 leaves 3, 282475249 by 4 leaves 1: 0 can not be
        Due.is("26 CARRIED OUT or not", 2, x.drawn(2, 1, 0));
        Due.is("26 CARRIED OUT or not: COST", 0, x.drawn(2, 1, 1));
        x = Due.told("c1,0,1;k;");
        // 16807 and 282475249 by 2 leave 1, 1622650073, too; 984943658 leaves 0
        Due.is("26 a child was told by its first", 1, x.drawn(4, 1, 0));
        Due.is("26 a child was told: COST", 1, x.drawn(4, 1, 1));
    }

    /** Reckoned by the rest of twice, bit by bit, so that no product is taken. */
    private static int timesModulo(int x, int times) {
        int rest = 0;
        for (int bit = 15; bit >= 0; bit--) {
            rest = plusModulo(rest, rest);
            rest = (times >> bit & 1) == 1 ? plusModulo(rest, x) : rest;
        }
        return rest;
    }

    private static int plusModulo(int a, int b) {
        return a - MOST + b >= 0 ? a - MOST + b : a + b;
    }

    private static void drawnFar() {
        for (int seed : new int[] {1, 2, 500000, 999998, 999999}) {
            BelievedWords x = Due.told("c6,0,2;q;l;");
            int rest = seed;
            int so = 0;
            int cost = 0;
            for (int n = 1; n <= 60; n++) {
                rest = timesModulo(rest, 16807);
                int fact = rest % 12 / 2;
                int then = rest % 2 == 0 ? so : so | 1 << fact;
                cost += 2 * Integer.bitCount(so ^ then);
                so = then;
                Due.is("26 SEED " + seed + ", n " + n, so, x.drawn(n, seed, 0));
                Due.is("26 SEED " + seed + ", n " + n + ": COST", cost, x.drawn(n, seed, 1));
            }
        }
    }

    private static void drawnRefused() {
        BelievedWords none = new BelievedWords();
        Due.is("26 no COURT", Due.STATE, none.drawn(0, 1, 0));
        Due.is("26 STATE ahead of BAD", Due.STATE, none.drawn(-1, 0, 2));
        BelievedWords x = Due.told("c2,0,1;q;");
        Due.is("26 n 60", 0, x.drawn(60, 1, 0));
        Due.is("26 n above 60", Due.BAD, x.drawn(61, 1, 0));
        Due.is("26 n below 0", Due.BAD, x.drawn(-1, 1, 0));
        Due.is("26 n, the most", Due.BAD, x.drawn(MOST, 1, 0));
        Due.is("26 n, the least", Due.BAD, x.drawn(LEAST, 1, 0));
        Due.is("26 SEED above 999999", Due.BAD, x.drawn(1, 1000000, 0));
        Due.is("26 SEED below 1", Due.BAD, x.drawn(1, 0, 0));
        Due.is("26 SEED below 0", Due.BAD, x.drawn(1, -1, 0));
        Due.is("26 SEED, the most", Due.BAD, x.drawn(1, MOST, 0));
        Due.is("26 SEED, the least", Due.BAD, x.drawn(1, LEAST, 0));
        Due.is("26 what above 1", Due.BAD, x.drawn(1, 1, 2));
        Due.is("26 what below 0", Due.BAD, x.drawn(1, 1, -1));
    }
}
