/** The boundary cases of what is FORETOLD (terms, part 3), and of promises 16 to 26. One test for each. */
public final class EdgesOfForetoldTest {
    private static final int LEAST = Integer.MIN_VALUE, MOST = Integer.MAX_VALUE;
    private static final String ALL = "c3,0,2;m0,1;x1,2;l;b;w;q;k;";

    public static void main(String[] args) {
        stateAheadOfBad();
        makes();
        goals();
        shortest();
        shortestNone();
        cheapest();
        firstsOfCheapest();
        idle();
        giveUp();
        giveUpOfSeveral();
        order();
        orderNone();
        ever();
        Due.end();
    }

    // ---- STATE: no COURT (ahead of BAD)

    private static void stateAheadOfBad() {
        BelievedWords x = new BelievedWords();
        Due.is("17 no COURT", Due.STATE, x.shortest(0, 0, 0));
        Due.is("17 STATE ahead of BAD FACTS", Due.STATE, x.shortest(-1, 0, 0));
        Due.is("17 STATE ahead of BAD both", Due.STATE, x.shortest(1, 1, 0));
        Due.is("17 STATE ahead of BAD what", Due.STATE, x.shortest(0, 0, 2));
        Due.is("18 no COURT", Due.STATE, x.cheapest(0, 0, 0));
        Due.is("18 STATE ahead of BAD FACTS", Due.STATE, x.cheapest(0, -1, 0));
        Due.is("18 STATE ahead of BAD both", Due.STATE, x.cheapest(1, 1, 0));
        Due.is("18 STATE ahead of BAD what", Due.STATE, x.cheapest(0, 0, -1));
        Due.is("20 no COURT", Due.STATE, x.giveUp(0, 0));
        Due.is("20 STATE ahead of BAD", Due.STATE, x.giveUp(64, 2));
        Due.is("21 no COURT", Due.STATE, x.order(0, 0));
        Due.is("21 STATE ahead of BAD", Due.STATE, x.order(-1, -1));
        Due.is("22 no COURT", Due.STATE, x.ever(0));
        Due.is("22 STATE ahead of BAD", Due.STATE, x.ever(2));
        Due.is("16 no COURT, so no PERSON", Due.BAD, x.makes(0, 0));
        Due.is("19 no COURT, so no PERSON", Due.BAD, x.idle(0));
    }

    // ---- 16 makes

    private static void makes() {
        BelievedWords x = Due.told("c3,3,1;q;q;l;");
        Due.is("16 the first person", 3, x.makes(0, 0));
        Due.is("16 the last person", 2, x.makes(2, 0));
        Due.is("16 a person behind the last", Due.BAD, x.makes(3, 0));
        Due.is("16 a person ahead of the first", Due.BAD, x.makes(-1, 0));
        Due.is("16 a person, the most", Due.BAD, x.makes(MOST, 0));
        Due.is("16 a person, the least", Due.BAD, x.makes(LEAST, 0));
        Due.is("16 the last SAYING", 7, x.makes(2, 5));
        Due.is("16 a SAYING behind the last", Due.BAD, x.makes(2, 6));
        Due.is("16 a SAYING ahead of the first", Due.BAD, x.makes(2, -1));
        Due.is("16 a SAYING, the most", Due.BAD, x.makes(2, MOST));
        Due.is("16 a SAYING, the least", Due.BAD, x.makes(2, LEAST));
        Due.is("16 none SO is no NONE", 0, Due.told("c1,1,1;l;").makes(0, 0));
        Due.is("16 all SO", 63, Due.told("c6,31,1;l;").makes(0, 11));
        Due.is("16 not CARRIED OUT", Due.NONE, Due.told("c2,1,1;x0,1;l;").makes(0, 3));
        Due.is("16 not CARRIED OUT already", Due.NONE, Due.told("c3,3,1;x0,1;q;").makes(0, 4));
    }

    // ---- 17, 18: FACTS, one told as both

    private static void goals() {
        BelievedWords x = Due.told("c3,0,1;l;");
        for (int what = 0; what <= 1; what++) {
            boolean many = what == 0;
            Due.is("17 no FACTS told: it is so", many ? 0 : Due.NONE, x.shortest(0, 0, what));
            Due.is("18 no FACTS told: it is so", many ? 0 : Due.NONE, x.cheapest(0, 0, what));
            Due.is("17 all FACTS to be SO", many ? 3 : 1, x.shortest(7, 0, what));
            Due.is("18 all FACTS to be SO", many ? 3 : 0, x.cheapest(7, 0, what));
            Due.is("17 all FACTS not to be SO: it is so", many ? 0 : Due.NONE, x.shortest(0, 7, what));
            Due.is("18 all FACTS not to be SO: it is so", many ? 0 : Due.NONE, x.cheapest(0, 7, what));
            Due.is("17 FACTS of no FACT", Due.BAD, x.shortest(8, 0, what));
            Due.is("18 FACTS of no FACT", Due.BAD, x.cheapest(8, 0, what));
            Due.is("17 others of no FACT", Due.BAD, x.shortest(0, 8, what));
            Due.is("18 others of no FACT", Due.BAD, x.cheapest(0, 8, what));
            Due.is("17 FACTS below 0", Due.BAD, x.shortest(-1, 0, what));
            Due.is("18 FACTS below 0", Due.BAD, x.cheapest(-1, 0, what));
            Due.is("17 others below 0", Due.BAD, x.shortest(0, -1, what));
            Due.is("18 others below 0", Due.BAD, x.cheapest(0, -1, what));
            Due.is("17 FACTS, the least", Due.BAD, x.shortest(LEAST, 0, what));
            Due.is("18 others, the least", Due.BAD, x.cheapest(0, LEAST, what));
            Due.is("17 FACTS, the most", Due.BAD, x.shortest(MOST, 0, what));
            Due.is("18 others, the most", Due.BAD, x.cheapest(0, MOST, what));
            Due.is("17 the first FACT told as both", Due.BAD, x.shortest(1, 1, what));
            Due.is("18 the first FACT told as both", Due.BAD, x.cheapest(1, 1, what));
            Due.is("17 one of more told as both", Due.BAD, x.shortest(6, 5, what));
            Due.is("18 one of more told as both", Due.BAD, x.cheapest(6, 5, what));
        }
        for (int what : new int[] {-1, 2, MOST, LEAST}) {
            Due.is("17 what " + what, Due.BAD, x.shortest(1, 0, what));
            Due.is("18 what " + what, Due.BAD, x.cheapest(1, 0, what));
            Due.is("17 what " + what + " where it is so", Due.BAD, x.shortest(0, 0, what));
            Due.is("18 what " + what + " where it is so", Due.BAD, x.cheapest(0, 0, what));
        }
        Due.is("17 all of six FACTS", 6, Due.told("c6,0,1;l;").shortest(63, 0, 0));
        Due.is("17 beyond six FACTS", Due.BAD, Due.told("c6,0,1;l;").shortest(64, 0, 0));
    }

    private static void shortest(String sentence, BelievedWords x, int so, int not, int many, int first) {
        Due.is("17 " + sentence, many, x.shortest(so, not, 0));
        Due.is("17 " + sentence + ": the first", first, x.shortest(so, not, 1));
    }

    private static void shortest() {
        shortest("one SAYING, the first of all", Due.told("c1,1,1;l;"), 0, 1, 1, 0);
        shortest("the last SAYING of the last person", Due.told("c6,0,1;q;q;q;q;l;"), 32, 0, 1, 91);
        shortest("of persons alike the first", Due.told("c1,0,1;q;l;l;"), 1, 0, 1, 21);
        shortest("a wit's number is ahead of a liar's", Due.told("c1,0,1;w;l;"), 1, 0, 1, 0);
        shortest("fewer SAYINGS by a later person", Due.told("c2,0,1;l;b;"), 3, 0, 1, 21);
        shortest("as many by an earlier person", Due.told("c3,0,1;l;b;"), 7, 0, 2, 1);
        shortest("the first such row, not the cheapest", Due.told("c3,0,1;b;l;"), 4, 0, 1, 3);
        shortest("what RULES make SO", Due.told("c3,0,1;m0,1;m1,2;l;"), 7, 0, 1, 1);
        shortest("what RULES make SO by any SAYING", Due.told("c2,1,1;m0,1;q;"), 2, 0, 1, 0);
        shortest("what is not to be SO, ahead of what is", Due.told("c2,1,1;x0,1;l;"), 2, 0, 2, 0);
        shortest("what is SO at first is so, looked at or not", Due.told("c2,3,1;x0,1;l;"), 3, 0, 0, Due.NONE);
        shortest("six one behind another", Due.told("c6,0,1;l;"), 63, 0, 6, 1);
        shortest("one by whomever, one behind another", Due.told("c4,8,1;x0,3;q;k;b;"), 3, 8, 2, 26);
        BelievedWords x = Due.told("c2,0,1;k;k;");
        x.say(0, 0);
        shortest("what children were not told of", x, 2, 0, 1, 3);
    }

    private static void shortestNone() {
        int none = Due.NONE;
        shortest("a quiet one", Due.told("c1,0,1;q;"), 1, 0, none, none);
        shortest("what can not be", Due.told("c2,0,1;x0,1;l;"), 3, 0, none, none);
        shortest("what a RULE makes SO by one", Due.told("c2,0,1;m0,1;l;"), 1, 2, none, none);
        shortest("a circle of two", Due.told("c2,3,1;m0,1;m1,0;l;"), 1, 2, none, none);
        shortest("none is CARRIED OUT", Due.told("c3,3,1;x0,1;q;"), 4, 0, none, none);
        // a braggart alone tells both of two FACTS, always
        shortest("both or none", Due.told("c2,0,1;b;"), 1, 2, none, none);
        BelievedWords x = Due.told("c1,0,1;k;k;");
        x.say(0, 0);
        shortest("children who were told", x, 1, 0, none, none);
        x.pardon(0);
        shortest("children behind a pardon", x, 1, 0, 1, 1);
        // it is so only once: what a child was told it can not tell again
        x = Due.told("c3,1,1;x0,1;x1,2;k;");
        shortest("a child", x, 2, 1, 2, 0);
        x.say(0, 1);
        shortest("a child who was told what bars it", x, 2, 0, none, none);
        x = Due.told("c2,0,1;m0,1;l;");
        x.strike(0, 1);
        shortest("what no RULE makes SO any more", x, 1, 2, 1, 1);
    }

    private static void cheapest(String sentence, BelievedWords x, int so, int not, int cost, int first) {
        Due.is("18 " + sentence, cost, x.cheapest(so, not, 0));
        Due.is("18 " + sentence + ": the first", first, x.cheapest(so, not, 1));
    }

    private static void cheapest() {
        cheapest("PRICE 9 of six", Due.told("c6,0,9;l;"), 63, 0, 54, 0);
        cheapest("COST 0: it is so", Due.told("c1,1,9;l;"), 1, 0, 0, Due.NONE);
        cheapest("more SAYINGS for less", Due.told("c3,0,2;b;l;"), 4, 0, 2, 0);
        cheapest("one that is left and told again costs twice", Due.told("c3,4,1;x0,2;x1,2;b;"), 3, 4, 3, 0);
        cheapest("what RULES make SO costs, too", Due.told("c3,0,5;m0,1;m1,2;l;"), 1, 0, 15, 0);
        cheapest("what is away and made again costs nothing", Due.told("c3,3,5;m0,1;l;"), 4, 0, 5, 1);
        cheapest("a quiet one", Due.told("c1,0,1;q;"), 1, 0, Due.NONE, Due.NONE);
        cheapest("what can not be", Due.told("c2,0,1;x0,1;l;"), 3, 0, Due.NONE, Due.NONE);
        cheapest("none is CARRIED OUT", Due.told("c3,3,1;x0,1;q;"), 4, 0, Due.NONE, Due.NONE);
        cheapest("NONE is no COST: it is not PRICE times that", Due.told("c1,0,9;q;"), 1, 0, Due.NONE, Due.NONE);
        cheapest("what RULES make SO by any SAYING", Due.told("c2,1,4;m0,1;q;"), 2, 0, 4, 0);
        BelievedWords x = Due.told("c1,0,1;k;");
        x.say(0, 0);
        cheapest("a child who was told", x, 1, 0, Due.NONE, Due.NONE);
    }

    private static void firstsOfCheapest() {
        cheapest("the first SAYING can change nothing", Due.told("c2,0,1;q;l;"), 1, 0, 1, 0);
        cheapest("a wit's SAYING of what is so already", Due.told("c1,1,1;w;"), 0, 1, 1, 0);
        cheapest("one that is not CARRIED OUT is no first", Due.told("c2,2,1;x0,1;l;"), 1, 2, 2, 0);
        cheapest("one that makes it dearer is no first", Due.told("c2,1,1;l;"), 3, 0, 1, 1);
        // two are SO that can not be: nothing but the wit's words is CARRIED OUT
        cheapest("the last SAYING of the last person", Due.told("c6,48,1;x4,5;q;q;q;q;w;"), 16, 32, 1, 91);
        cheapest("by numbers, not by how many", Due.told("c3,0,1;l;b;"), 3, 0, 2, 0);
        // the child's idle SAYING of the FACT that is wanted would bar its way
        cheapest("a child's SAYING that bars the way is no first", Due.told("c1,0,1;k;"), 1, 0, 1, 1);
        cheapest("a child's idle SAYING of another FACT is", Due.told("c2,0,1;k;"), 2, 0, 1, 0);
    }

    // ---- 19 idle

    private static void idle() {
        Due.is("19 none", 0, Due.told("c3,3,1;x0,1;q;").idle(0));
        Due.is("19 all of one FACT", 3, Due.told("c1,0,1;q;").idle(0));
        Due.is("19 bits 0 to 11", 4095, Due.told("c6,0,1;q;").idle(0));
        Due.is("19 bit 0 alone", 1, Due.told("c1,0,1;l;").idle(0));
        Due.is("19 bit 11", 2048, Due.told("c6,32,1;l;").idle(0) & 3072);
        Due.is("19 what is not CARRIED OUT is none", 0b0110, Due.told("c2,1,1;x0,1;l;").idle(0));
        Due.is("19 what RULES make SO again", 0b1110, Due.told("c2,3,1;m0,1;l;").idle(0));
        Due.is("19 what RULES make SO now", 0, Due.told("c2,1,1;m0,1;q;").idle(0));
        BelievedWords x = Due.told("c2,0,1;l;k;q;");
        Due.is("19 a child", 0b0101, x.idle(1));
        x.say(2, 3);
        Due.is("19 a child that was told", 0b1101, x.idle(1));
        Due.is("19 the first person", 0b0101, x.idle(0));
        Due.is("19 the last person", 0b1111, x.idle(2));
        Due.is("19 a person behind the last", Due.BAD, x.idle(3));
        Due.is("19 a person ahead of the first", Due.BAD, x.idle(-1));
        Due.is("19 a person, the most", Due.BAD, x.idle(MOST));
        Due.is("19 a person, the least", Due.BAD, x.idle(LEAST));
    }

    // ---- 20 giveUp

    private static void giveUp(String sentence, BelievedWords x, int facts, int many, int which) {
        Due.is("20 " + sentence, many, x.giveUp(facts, 0));
        Due.is("20 " + sentence + ": which", which, x.giveUp(facts, 1));
    }

    private static void giveUp() {
        BelievedWords x = Due.told("c6,0,1;x0,1;m2,0;m3,4;m3,5;x4,5;l;");
        giveUp("no FACTS told", x, 0, 0, 0);
        giveUp("none to be left out", x, 0b000101, 0, 0);
        giveUp("one that can be", x, 1, 0, 0);
        giveUp("one of two", x, 3, 1, 1);
        giveUp("one by what RULES make SO", x, 0b000110, 1, 0b000010);
        giveUp("the only one, by what RULES make SO", x, 0b001000, 1, 0b001000);
        giveUp("all of them", Due.told("c3,0,1;m0,1;m0,2;x1,2;m1,0;l;"), 3, 2, 3);
        giveUp("what is SO now is not told", Due.told("c2,1,1;x0,1;l;"), 2, 0, 0);
        giveUp("what is SO now can not be, and is not told", Due.told("c3,3,1;x0,1;l;"), 4, 0, 0);
        giveUp("all of six", Due.told("c6,0,1;l;"), 63, 0, 0);
        Due.is("20 FACTS of no FACT", Due.BAD, x.giveUp(64, 0));
        Due.is("20 FACTS of no FACT of three", Due.BAD, Due.told("c3,0,1;l;").giveUp(8, 0));
        Due.is("20 FACTS below 0", Due.BAD, x.giveUp(-1, 0));
        Due.is("20 FACTS, the most", Due.BAD, x.giveUp(MOST, 0));
        Due.is("20 FACTS, the least", Due.BAD, x.giveUp(LEAST, 0));
        Due.is("20 what above 1", Due.BAD, x.giveUp(0, 2));
        Due.is("20 what below 0", Due.BAD, x.giveUp(0, -1));
        Due.is("20 what, the most", Due.BAD, x.giveUp(0, MOST));
    }

    private static void giveUpOfSeveral() {
        giveUp("of several the least", Due.told("c4,0,1;x2,3;l;"), 15, 1, 4);
        giveUp("fewest ahead of least", Due.told("c4,0,1;x0,3;x1,3;x2,3;l;"), 15, 1, 8);
        giveUp("of several twos the least", Due.told("c4,0,1;x0,1;x2,3;l;"), 15, 2, 5);
        giveUp("three of four that can not be together", Due.told("c4,0,1;x0,1;x0,2;x0,3;x1,2;x1,3;x2,3;l;"), 15, 3, 7);
        BelievedWords x = Due.told("c2,0,1;x0,1;l;");
        x.strike(0, 1);
        giveUp("a RULE that is struck", x, 3, 0, 0);
        x.strike(0, 0);
        giveUp("a RULE that stands again", x, 3, 1, 1);
    }

    // ---- 21 order

    private static void order(String sentence, BelievedWords x, int facts, int... due) {
        for (int k = 0; k < due.length; k++) {
            Due.is("21 " + sentence + ": " + k, due[k], x.order(facts, k));
        }
        Due.is("21 " + sentence + ": none behind the last", Due.NONE, x.order(facts, due.length));
        Due.is("21 " + sentence + ": none far behind", Due.NONE, x.order(facts, MOST));
    }

    private static void order() {
        BelievedWords x = Due.told("c6,0,1;m0,5;m5,3;x0,1;l;");
        order("no FACTS told", x, 0);
        order("one", x, 1, 0);
        order("the last one", x, 32, 5);
        order("two that no RULE orders", x, 6, 1, 2);
        order("two that can not be are in no order", x, 3, 0, 1);
        order("one behind what it makes SO", x, 33, 5, 0);
        order("by one RULE, not by two", x, 0b001001, 0, 3);
        order("all, the first by numbers", x, 63, 1, 2, 3, 4, 5, 0);
        BelievedWords y = Due.told("c6,0,1;m0,1;m1,2;m2,3;m3,4;m4,5;l;");
        order("a chain upwards", y, 63, 5, 4, 3, 2, 1, 0);
        order("a chain with a gap", y, 0b110011, 1, 0, 5, 4);
        Due.is("21 k below 0", Due.BAD, x.order(63, -1));
        Due.is("21 k, the least", Due.BAD, x.order(63, LEAST));
        Due.is("21 k below 0 of no FACTS", Due.BAD, x.order(0, -1));
        Due.is("21 FACTS of no FACT", Due.BAD, x.order(64, 0));
        Due.is("21 FACTS of no FACT of one", Due.BAD, Due.told("c1,0,1;l;").order(2, 0));
        Due.is("21 FACTS below 0", Due.BAD, x.order(-1, 0));
        Due.is("21 FACTS, the most", Due.BAD, x.order(MOST, 0));
        Due.is("21 FACTS, the least", Due.BAD, x.order(LEAST, 0));
    }

    private static void orderNone() {
        BelievedWords x = Due.told("c4,0,1;m2,3;m3,2;m0,2;l;");
        order("a circle of two", x, 12);
        order("a circle behind one that could be the first", x, 14);
        order("half a circle", x, 6, 1, 2);
        order("a circle of three", Due.told("c3,0,1;m0,1;m1,2;m2,0;l;"), 7);
        order("two of a circle of three", Due.told("c3,0,1;m0,1;m1,2;m2,0;l;"), 3, 1, 0);
        x.strike(1, 1);
        order("a circle that is struck", x, 15, 1, 3, 2, 0);
        x.strike(1, 0);
        order("a circle that stands again", x, 15);
    }

    // ---- 22 ever

    private static void ever(String sentence, BelievedWords x, int facts, int states) {
        Due.is("22 " + sentence, facts, x.ever(0));
        Due.is("22 " + sentence + ": states", states, x.ever(1));
    }

    private static void ever() {
        ever("none but what is", Due.told("c1,0,1;q;"), 0, 1);
        ever("what is, and nothing else", Due.told("c6,63,1;q;"), 63, 1);
        ever("none is CARRIED OUT", Due.told("c3,3,1;x0,1;q;"), 3, 1);
        ever("all FACTS, all states", Due.told("c6,0,1;l;"), 63, 64);
        ever("all FACTS by braggarts", Due.told("c2,0,1;b;"), 3, 2);
        ever("what RULES make SO by any SAYING", Due.told("c2,1,1;m0,1;q;"), 3, 2);
        ever("what was SO at first and can not be again", Due.told("c2,1,1;m0,1;l;"), 3, 4);
        ever("each FACT, but no two", Due.told("c3,0,1;x0,1;x0,2;x1,2;l;"), 7, 4);
        ever("a state by two ways is one", Due.told("c2,0,1;l;w;"), 3, 4);
        BelievedWords x = Due.told("c1,0,1;k;");
        ever("a child", x, 1, 2);
        x.say(0, 0);
        ever("a child that was told", x, 0, 1);
        x.undo();
        ever("a child that was not told", x, 1, 2);
        for (int what : new int[] {-1, 2, MOST, LEAST}) {
            Due.is("22 what " + what, Due.BAD, Due.told(ALL).ever(what));
        }
    }
}
