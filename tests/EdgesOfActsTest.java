/** The boundary cases of SAYINGS and ACTS (terms, part 2), and of promises 1, 9 to 15, 27 and 28. One test for each. */
public final class EdgesOfActsTest {
    private static final int LEAST = Integer.MIN_VALUE, MOST = Integer.MAX_VALUE;

    public static void main(String[] args) {
        noCourt();
        sayings();
        children();
        rulesOfSayings();
        carriedOutOrNot();
        costs();
        undo();
        keptActs();
        say();
        pardon();
        strike();
        stand();
        rule();
        cell();
        image();
        restore();
        Due.end();
    }

    // ---- 1 no COURT

    private static void noCourt() {
        BelievedWords x = new BelievedWords();
        Due.is("1 no FACTS", 0, x.count(1));
        Due.is("1 no RULES", 0, x.count(2));
        Due.is("1 no PEOPLE", 0, x.count(3));
        Due.is("1 no PRICE", 0, x.count(4));
        Due.is("1 nothing SO", 0, x.count(5));
        Due.is("1 no ACTS", 0, x.count(6));
        Due.is("1 nobody to say", Due.BAD, x.say(0, 0));
        Due.is("1 nothing to pardon", Due.BAD, x.pardon(0));
        Due.is("1 nothing to strike", Due.BAD, x.strike(0, 1));
        Due.is("1 nothing to let stand", Due.BAD, x.strike(0, 0));
        Due.is("1 nothing to undo", Due.STATE, x.undo());
        Due.is("1 nothing stands", Due.STATE, x.stand(0));
        Due.is("1 no RULE", Due.BAD, x.rule(0, 0));
        Due.is("1 no CELL", Due.BAD, x.cell(0));
        Due.is("1 nothing would be made", Due.BAD, x.makes(0, 0));
        Due.is("1 nothing idle", Due.BAD, x.idle(0));
        Due.is("1 no KIND", Due.BAD, x.kind(0));
        Due.is("1 nobody to be taken as one", Due.BAD, x.as(0, 0));
        Due.is("1 nobody to ask", Due.BAD, x.ask(0, 0));
        Due.is("1 no image", Due.STATE, x.image(0));
        Due.is("1 no image was kept", Due.STATE, x.restore(0));
        Due.tell(x, "c0");
        Due.is("1 no COURT by a text with a FAULT", Due.STATE, x.stand(0));
    }

    // ---- A SAYING: number 2 times the FACT, and 1 if it is

    private static int becomes(String text, int person, int saying) {
        return Due.told(text).say(person, saying);
    }

    private static void sayings() {
        Due.is("a liar: the first FACT is", 1, becomes("c6,0,1;l;", 0, 1));
        Due.is("a liar: the first FACT is not", 62, becomes("c6,63,1;l;", 0, 0));
        Due.is("a liar: the last FACT is", 32, becomes("c6,0,1;l;", 0, 11));
        Due.is("a liar: the last FACT is not", 31, becomes("c6,63,1;l;", 0, 10));
        Due.is("a liar: what is so already", 1, becomes("c6,1,1;l;", 0, 1));
        Due.is("a liar: what is not so already", 0, becomes("c6,0,1;l;", 0, 0));
        Due.is("a braggart: the next FACT, too", 24, becomes("c6,0,1;b;", 0, 7));
        Due.is("a braggart: the next FACT is not, likewise", 39, becomes("c6,63,1;b;", 0, 6));
        Due.is("a braggart: the last but one", 48, becomes("c6,0,1;b;", 0, 9));
        Due.is("a braggart: behind the last the first", 33, becomes("c6,0,1;b;", 0, 11));
        Due.is("a braggart: behind the last the first is not, likewise", 30, becomes("c6,63,1;b;", 0, 10));
        Due.is("a braggart: behind the last of two the first", 3, becomes("c2,0,1;b;", 0, 3));
        Due.is("a braggart: one FACT alone is its own next", 1, becomes("c1,0,1;b;", 0, 1));
        Due.is("a braggart: one FACT alone is not", 0, becomes("c1,1,1;b;", 0, 0));
        Due.is("a braggart: one of the two is so already", 3, becomes("c3,1,1;b;", 0, 1));
        Due.is("a wit: the contrary of is", 62, becomes("c6,63,1;w;", 0, 1));
        Due.is("a wit: the contrary of is not", 1, becomes("c6,0,1;w;", 0, 0));
        Due.is("a wit: of the last FACT", 32, becomes("c6,0,1;w;", 0, 10));
        Due.is("a wit: the next FACT is none of its", 0, becomes("c2,1,1;w;", 0, 1));
        Due.is("a quiet one: nothing by is", 0, becomes("c6,0,1;q;", 0, 11));
        Due.is("a quiet one: nothing by is not", 63, becomes("c6,63,1;q;", 0, 0));
        Due.is("a child: that, by is", 32, becomes("c6,0,1;k;", 0, 11));
        Due.is("a child: that, by is not", 62, becomes("c6,63,1;k;", 0, 0));
        Due.is("a child: the next FACT is none of its", 1, becomes("c2,0,1;k;", 0, 1));
    }

    private static void children() {
        BelievedWords x = Due.told("c3,0,1;k;q;b;k;");
        x.say(0, 1);
        Due.is("a child: its own SAYING was one before", 1, x.say(0, 0));
        x.say(1, 2);
        Due.is("a child: SAID by a quiet one before", 1, x.say(0, 3));
        x.say(2, 4);
        Due.is("a child: the FACT that a braggart named was SAID of", 0, x.say(3, 5));
        x = Due.told("c3,0,1;b;k;");
        x.say(0, 1);
        Due.is("a child: of a braggart's next FACT nothing was SAID", 1, x.say(1, 2));
        x = Due.told("c3,0,1;m0,1;l;k;");
        x.say(0, 1);
        x.say(0, 0);
        Due.is("a child: of what RULES made SO nothing was SAID", 0, x.say(1, 2));
        Due.is("a child: then it was", 0b011, x.stand(1));
        x = Due.told("c2,1,1;x0,1;l;k;");
        Due.is("not CARRIED OUT", Due.NONE, x.say(0, 3));
        Due.is("a child: SAID before, not CARRIED OUT", 1, x.say(1, 3));
        x = Due.told("c2,0,1;w;k;");
        x.say(0, 1);
        Due.is("a child: SAID before, either way", 0, x.say(1, 1));
        x = Due.told("c2,0,1;k;");
        x.say(0, 1);
        x.pardon(0);
        Due.is("a child: nothing was SAID behind a pardon", 0, x.say(0, 0));
        x.undo();
        x.undo();
        x.undo();
        Due.is("a child: nothing was SAID behind all undone", 1, x.say(0, 1));
    }

    // ---- as long as there is one: a FACT that a RULE makes SO by one that is SO becomes SO

    private static void rulesOfSayings() {
        Due.is("one RULE", 3, becomes("c2,0,1;m0,1;l;", 0, 1));
        Due.is("a RULE is not read backwards", 2, becomes("c2,0,1;m0,1;l;", 0, 3));
        Due.is("a chain, as long as there is one", 63, becomes("c6,0,1;m0,1;m1,2;m2,3;m3,4;m4,5;l;", 0, 1));
        Due.is("a chain told backwards", 63, becomes("c6,0,1;m4,5;m3,4;m2,3;m1,2;m0,1;l;", 0, 1));
        Due.is("a chain downwards", 63, becomes("c6,0,1;m5,4;m4,3;m3,2;m2,1;m1,0;l;", 0, 11));
        Due.is("a circle", 7, becomes("c3,0,1;m0,1;m1,2;m2,0;l;", 0, 3));
        Due.is("what is made SO can not be told away", 3, becomes("c2,3,1;m0,1;l;", 0, 2));
        Due.is("what made it can", 2, becomes("c2,3,1;m0,1;l;", 0, 0));
        Due.is("RULES look at other FACTS, too", 7, becomes("c3,1,1;m0,1;l;", 0, 5));
        Due.is("RULES look behind a quiet one, too", 3, becomes("c2,1,1;m0,1;q;", 0, 3));
        BelievedWords x = Due.told("c2,0,1;m0,1;l;");
        x.strike(0, 1);
        Due.is("a RULE that is struck makes nothing", 1, x.say(0, 1));
        x.strike(0, 0);
        Due.is("a RULE that stands again waits for a SAYING", 1, x.stand(0));
        Due.is("a RULE that stands again makes it SO then", 3, x.say(0, 1));
    }

    // ---- two that can not be: not CARRIED OUT

    private static void carriedOutOrNot() {
        Due.is("by this SAYING", Due.NONE, becomes("c2,1,1;x0,1;l;", 0, 3));
        Due.is("by this SAYING, told the other way", Due.NONE, becomes("c2,1,1;x1,0;l;", 0, 3));
        Due.is("by this SAYING, both by a braggart", Due.NONE, becomes("c2,0,1;x0,1;b;", 0, 1));
        Due.is("by a RULE", Due.NONE, becomes("c3,0,1;m0,1;m1,2;x0,2;l;", 0, 1));
        Due.is("already", Due.NONE, becomes("c3,3,1;x0,1;l;", 0, 5));
        Due.is("already, a quiet one", Due.NONE, becomes("c3,3,1;x0,1;q;", 0, 5));
        Due.is("no more by this SAYING", 2, becomes("c3,3,1;x0,1;l;", 0, 0));
        Due.is("only one of the two", 1, becomes("c2,0,1;x0,1;l;", 0, 1));
        BelievedWords x = Due.told("c3,4,7;m0,1;x1,2;l;");
        Due.is("not CARRIED OUT", Due.NONE, x.say(0, 1));
        Due.is("all FACTS are as they were", 4, x.stand(0));
        Due.is("in a CELL once", 1, x.cell(0));
        Due.is("no COST", 0, x.stand(2));
        Due.is("it was SAID of this FACT", 1, x.stand(1));
        Due.is("it was SAID", 1, x.stand(3));
        Due.is("an ACT, too", 1, x.count(6));
        x.say(0, 1);
        Due.is("in a CELL once more", 2, x.cell(0));
        x = Due.told("c2,3,1;x0,1;l;l;");
        x.strike(0, 1);
        Due.is("a RULE that is struck bars nothing", 3, x.say(0, 1));
        x.strike(0, 0);
        Due.is("a RULE that stands again bars already", Due.NONE, x.say(1, 1));
        Due.is("who SAID it was in a CELL", 1, x.cell(1));
        Due.is("nobody else", 0, x.cell(0));
    }

    // ---- COST is PRICE more for each FACT that is another way than before

    private static int cost(String text, int person, int saying) {
        BelievedWords x = Due.told(text);
        x.say(person, saying);
        return x.stand(2);
    }

    private static void costs() {
        Due.is("COST of none", 0, cost("c6,1,9;l;", 0, 1));
        Due.is("COST of one", 9, cost("c6,0,9;l;", 0, 1));
        Due.is("COST of one that is no more", 9, cost("c6,1,9;l;", 0, 0));
        Due.is("COST of two", 18, cost("c6,0,9;b;", 0, 1));
        Due.is("COST of all", 54, cost("c6,0,9;m0,1;m1,2;m2,3;m3,4;m4,5;l;", 0, 1));
        Due.is("COST of what RULES make SO", 2, cost("c3,1,1;m0,1;m1,2;q;", 0, 0));
        Due.is("COST of one away and one made: none is another way", 0, cost("c2,3,9;m0,1;l;", 0, 2));
        BelievedWords x = Due.told("c1,0,3;l;");
        x.say(0, 1);
        x.say(0, 0);
        Due.is("COST of forth and back", 6, x.stand(2));
    }

    // ---- 9 undo

    private static void undo() {
        BelievedWords x = Due.told("c2,0,2;m0,1;l;q;");
        Due.is("9 none behind court()", Due.STATE, x.undo());
        x.say(0, 1);
        Due.is("9 the only one", 0, x.undo());
        Due.is("9 as it was: SO", 0, x.stand(0));
        Due.is("9 as it was: what was SAID of", 0, x.stand(1));
        Due.is("9 as it was: COST", 0, x.stand(2));
        Due.is("9 as it was: how much was SAID", 0, x.stand(3));
        Due.is("9 none then", Due.STATE, x.undo());
        Due.is("9 none, again", Due.STATE, x.undo());
        x.say(1, 0);
        Due.is("9 one by which nothing becomes another", 0, x.undo());
        x.say(0, 1);
        x.pardon(0);
        Due.is("9 a pardon", 1, x.undo());
        Due.is("9 a pardon undone", 1, x.stand(1));
        x.strike(0, 1);
        Due.is("9 a RULE is struck", 1, x.undo());
        Due.is("9 a RULE is struck, undone", 0, x.rule(0, 3));
        x.strike(0, 1);
        x.strike(0, 0);
        Due.is("9 a RULE stands again", 2, x.undo());
        Due.is("9 a RULE stands again, undone", 1, x.rule(0, 3));
        Due.is("9 undone, it is struck for SAYINGS, too", 1, x.makes(0, 2));
        Due.is("9 both undone", 1, x.undo());
        Due.is("9 both undone, it stands for SAYINGS, too", 3, x.makes(0, 2));
        x = Due.told("c2,1,1;x0,1;l;");
        x.say(0, 3);
        Due.is("9 one that is not CARRIED OUT", 0, x.undo());
        Due.is("9 its CELL is undone", 0, x.cell(0));
        Due.is("9 what was SAID of is undone", 0, x.stand(1));
    }

    private static BelievedWords after(int acts) {
        BelievedWords x = Due.told("c6,0,1;l;q;");
        for (int i = 0; i < acts; i++) {
            x.say(i % 6 == 5 ? 1 : 0, 1 + 2 * (i / 4));
        }
        return x;
    }

    private static void keptActs() {
        Due.is("33 no ACT", 0, after(0).count(6));
        Due.is("33 one ACT", 1, after(1).count(6));
        Due.is("33 23 ACTS", 23, after(23).count(6));
        Due.is("33 24 ACTS", 24, after(24).count(6));
        BelievedWords x = after(24);
        for (int left = 23; left >= 0; left--) {
            Due.is("9 all 24 are undone", left, x.undo());
        }
        Due.is("9 none of 24 is left", Due.STATE, x.undo());
        Due.is("9 the first of 24 is undone", 0, x.stand(3));
        x = after(24);
        x.pardon(0);
        Due.is("33 of 25 the oldest is forgotten", 24, x.count(6));
        for (int left = 23; left >= 0; left--) {
            Due.is("9 24 of 25 are undone", left, x.undo());
        }
        Due.is("9 the oldest of 25 is not", Due.STATE, x.undo());
        Due.is("9 the oldest of 25 stands", 1, x.stand(3));
        Due.is("9 the oldest of 25 is SO", 1, x.stand(0));
        x.say(0, 3);
        Due.is("9 an ACT behind the forgotten", 0, x.undo());
        Due.is("9 an ACT behind the forgotten, undone", 1, x.stand(0));
        x = after(24);
        x.undo();
        x.say(0, 0);
        Due.is("9 the latest first, behind one undone", 24, x.count(6));
        x.undo();
        Due.is("9 as it was behind 23", 23, x.stand(3));
        refusedAreNoActs();
    }

    private static void refusedAreNoActs() {
        BelievedWords x = Due.told("c1,0,1;l;");
        x.say(1, 0);
        x.say(0, 2);
        x.pardon(0);
        x.pardon(1);
        x.strike(0, 1);
        x.undo();
        Due.is("33 what is refused is no ACT", 0, x.count(6));
        x.image(0);
        x.makes(0, 0);
        x.drawn(60, 1, 0);
        Due.is("33 what is FORETOLD, and an IMAGE, is no ACT", 0, x.count(6));
    }

    // ---- 10 say

    private static void say() {
        String text = "c3,0,1;q;q;l;";
        Due.is("10 the first person", 0, becomes(text, 0, 1));
        Due.is("10 the last person", 1, becomes(text, 2, 1));
        Due.is("10 a person behind the last", Due.BAD, becomes(text, 3, 1));
        Due.is("10 a person ahead of the first", Due.BAD, becomes(text, -1, 1));
        Due.is("10 a person, the most", Due.BAD, becomes(text, MOST, 1));
        Due.is("10 a person, the least", Due.BAD, becomes(text, LEAST, 1));
        Due.is("10 the first SAYING", 0, becomes(text, 2, 0));
        Due.is("10 the last SAYING", 4, becomes(text, 2, 5));
        Due.is("10 a SAYING behind the last", Due.BAD, becomes(text, 2, 6));
        Due.is("10 a SAYING ahead of the first", Due.BAD, becomes(text, 2, -1));
        Due.is("10 a SAYING, the most", Due.BAD, becomes(text, 2, MOST));
        Due.is("10 a SAYING, the least", Due.BAD, becomes(text, 2, LEAST));
        Due.is("10 the last of five", 1, becomes("c1,0,1;q;q;q;q;l;", 4, 1));
        Due.is("10 behind the last of five", Due.BAD, becomes("c1,0,1;q;q;q;q;l;", 5, 1));
    }

    // ---- 11 pardon

    private static void pardon() {
        BelievedWords x = Due.told("c3,0,1;l;");
        Due.is("11 nothing was SAID", Due.STATE, x.pardon(0));
        x.say(0, 5);
        Due.is("11 nothing was SAID of this", Due.STATE, x.pardon(1));
        Due.is("11 a FACT behind the last", Due.BAD, x.pardon(3));
        Due.is("11 a FACT ahead of the first", Due.BAD, x.pardon(-1));
        Due.is("11 a FACT, the most", Due.BAD, x.pardon(MOST));
        Due.is("11 a FACT, the least", Due.BAD, x.pardon(LEAST));
        Due.is("11 a FACT 32 above one", Due.BAD, x.pardon(34));
        Due.is("11 the last FACT: none is left", 0, x.pardon(2));
        Due.is("11 again: nothing was SAID of it", Due.STATE, x.pardon(2));
        x.say(0, 1);
        x.say(0, 5);
        Due.is("11 the first FACT", 4, x.pardon(0));
        Due.is("11 what is SO stays", 5, x.stand(0));
        Due.is("11 COST stays", 2, x.stand(2));
        Due.is("11 how much was SAID stays", 3, x.stand(3));
        x = Due.told("c2,1,1;x0,1;l;");
        x.say(0, 3);
        Due.is("11 of what was not CARRIED OUT", 0, x.pardon(1));
        Due.is("11 a CELL stays", 1, x.cell(0));
        Due.is("11 the sixth FACT", 0, sixth().pardon(5));
        Due.is("11 behind the sixth FACT", Due.BAD, sixth().pardon(6));
    }

    private static BelievedWords sixth() {
        BelievedWords x = Due.told("c6,0,1;l;");
        x.say(0, 11);
        return x;
    }

    // ---- 12 strike

    private static BelievedWords eight() {
        return Due.told("c6,0,1;m0,1;m1,2;m2,3;m3,4;m4,5;x0,1;x1,0;x0,5;l;");
    }

    private static void strike() {
        Due.is("12 the first RULE", 1, eight().strike(0, 1));
        Due.is("12 the last RULE", 1, eight().strike(7, 1));
        Due.is("12 a RULE behind the last", Due.BAD, eight().strike(8, 1));
        Due.is("12 a RULE ahead of the first", Due.BAD, eight().strike(-1, 1));
        Due.is("12 a RULE, the most", Due.BAD, eight().strike(MOST, 1));
        Due.is("12 a RULE, the least", Due.BAD, eight().strike(LEAST, 1));
        Due.is("12 a RULE 32 above one", Due.BAD, eight().strike(32, 1));
        Due.is("12 on above 1", Due.BAD, eight().strike(0, 2));
        Due.is("12 on below 0", Due.BAD, eight().strike(0, -1));
        Due.is("12 on, the most", Due.BAD, eight().strike(0, MOST));
        Due.is("12 it stands already", Due.STATE, eight().strike(0, 0));
        Due.is("12 BAD RULE ahead of STATE", Due.BAD, eight().strike(8, 0));
        BelievedWords x = eight();
        for (int rule = 0; rule < 8; rule++) {
            Due.is("12 how many are struck", rule + 1, x.strike(rule, 1));
        }
        Due.is("12 it is struck already", Due.STATE, x.strike(7, 1));
        Due.is("33 RULES that are struck are counted", 8, x.count(2));
        for (int rule = 7; rule >= 0; rule--) {
            Due.is("12 how many are struck yet", rule, x.strike(rule, 0));
        }
        Due.is("12 it stands again", Due.STATE, x.strike(0, 0));
        Due.is("33 each was an ACT", 16, x.count(6));
    }

    // ---- 13 stand

    private static void stand() {
        BelievedWords none = new BelievedWords();
        Due.is("13 no COURT", Due.STATE, none.stand(0));
        Due.is("13 STATE ahead of BAD", Due.STATE, none.stand(4));
        Due.is("13 STATE ahead of BAD below", Due.STATE, none.stand(-1));
        BelievedWords x = Due.told("c3,5,1;l;");
        Due.is("13 what is SO", 5, x.stand(0));
        Due.is("13 nothing was SAID", 0, x.stand(1));
        Due.is("13 no COST", 0, x.stand(2));
        Due.is("13 none was SAID", 0, x.stand(3));
        Due.is("13 what above 3", Due.BAD, x.stand(4));
        Due.is("13 what below 0", Due.BAD, x.stand(-1));
        Due.is("13 what, the most", Due.BAD, x.stand(MOST));
        Due.is("13 what, the least", Due.BAD, x.stand(LEAST));
    }

    // ---- 14 rule

    private static void rule() {
        BelievedWords x = eight();
        Due.is("14 the first RULE: its sort", 0, x.rule(0, 0));
        Due.is("14 the first RULE: A", 0, x.rule(0, 1));
        Due.is("14 the first RULE: B", 1, x.rule(0, 2));
        Due.is("14 the first RULE: stands", 0, x.rule(0, 3));
        Due.is("14 the last RULE: its sort", 1, x.rule(7, 0));
        Due.is("14 the last RULE: A", 0, x.rule(7, 1));
        Due.is("14 the last RULE: B", 5, x.rule(7, 2));
        Due.is("14 the last RULE: stands", 0, x.rule(7, 3));
        x.strike(7, 1);
        Due.is("14 the last RULE: struck", 1, x.rule(7, 3));
        Due.is("14 another: stands", 0, x.rule(6, 3));
        Due.is("14 a RULE behind the last", Due.BAD, x.rule(8, 0));
        Due.is("14 a RULE ahead of the first", Due.BAD, x.rule(-1, 0));
        Due.is("14 a RULE, the most", Due.BAD, x.rule(MOST, 0));
        Due.is("14 a RULE, the least", Due.BAD, x.rule(LEAST, 0));
        Due.is("14 what above 3", Due.BAD, x.rule(0, 4));
        Due.is("14 what below 0", Due.BAD, x.rule(0, -1));
        Due.is("14 no RULES", Due.BAD, Due.told("c1,0,1;l;").rule(0, 0));
        Due.is("14 behind the only RULE", Due.BAD, Due.told("c2,0,1;m0,1;l;").rule(1, 0));
    }

    // ---- 15 cell

    private static void cell() {
        BelievedWords x = Due.told("c2,3,1;x0,1;q;q;l;");
        x.say(2, 1);
        Due.is("15 the last person", 1, x.cell(2));
        Due.is("15 the first person, never", 0, x.cell(0));
        Due.is("15 a person behind the last", Due.BAD, x.cell(3));
        Due.is("15 a person ahead of the first", Due.BAD, x.cell(-1));
        Due.is("15 a person, the most", Due.BAD, x.cell(MOST));
        Due.is("15 a person, the least", Due.BAD, x.cell(LEAST));
        for (int i = 0; i < 30; i++) {
            x.say(0, 1);
        }
        Due.is("15 often", 30, x.cell(0));
    }

    // ---- 27 image

    private static void image() {
        BelievedWords none = new BelievedWords();
        Due.is("27 no COURT", Due.STATE, none.image(0));
        Due.is("27 no COURT, the last", Due.STATE, none.image(1));
        Due.is("27 BAD ahead of STATE", Due.BAD, none.image(2));
        Due.is("27 BAD below ahead of STATE", Due.BAD, none.image(-1));
        BelievedWords x = Due.told("c1,0,1;l;");
        Due.is("27 the first IMAGE", 1, x.image(0));
        Due.is("27 the last IMAGE", 1, x.image(1));
        Due.is("27 an IMAGE behind the last", Due.BAD, x.image(2));
        Due.is("27 an IMAGE ahead of the first", Due.BAD, x.image(-1));
        Due.is("27 an IMAGE, the most", Due.BAD, x.image(MOST));
        Due.is("27 an IMAGE, the least", Due.BAD, x.image(LEAST));
        Due.is("27 an IMAGE in place of another", 1, x.image(0));
        x.say(0, 1);
        Due.is("27 ACTS can be undone behind it", 1, x.image(1));
        Due.is("27 ACTS can be undone behind it: undo()", 0, x.undo());
        Due.is("27 the IMAGE keeps what was undone", 1, x.restore(1) == 1 ? x.stand(0) : 9);
        Due.is("27 the other IMAGE is as it was", 0, x.restore(0) == 1 ? x.stand(0) : 9);
    }

    // ---- 28 restore

    private static void restore() {
        BelievedWords none = new BelievedWords();
        Due.is("28 none was kept", Due.STATE, none.restore(0));
        Due.is("28 BAD ahead of STATE", Due.BAD, none.restore(2));
        Due.is("28 BAD below ahead of STATE", Due.BAD, none.restore(-1));
        none.image(0);
        Due.is("28 none was kept by image() of no COURT", Due.STATE, none.restore(0));
        BelievedWords x = Due.told("c2,0,3;x0,1;l;k;");
        x.image(1);
        Due.is("28 the other was not kept", Due.STATE, x.restore(0));
        Due.is("28 an IMAGE behind the last", Due.BAD, x.restore(2));
        x.say(0, 1);
        x.say(1, 3);
        x.strike(0, 1);
        Due.is("28 it was kept", 1, x.restore(1));
        Due.is("28 as it was kept: SO", 0, x.stand(0));
        Due.is("28 as it was kept: what was SAID of", 0, x.stand(1));
        Due.is("28 as it was kept: COST", 0, x.stand(2));
        Due.is("28 as it was kept: how much was SAID", 0, x.stand(3));
        Due.is("28 as it was kept: CELLS", 0, x.cell(1));
        Due.is("28 as it was kept: RULES", 0, x.rule(0, 3));
        Due.is("28 as it was kept: RULES bar again", Due.NONE, x.say(0, 1) == 1 ? x.makes(0, 3) : 9);
        x.undo();
        Due.is("28 as it was kept: to a child", 1, x.makes(1, 1));
        x.say(0, 1);
        x.restore(1);
        Due.is("28 no ACT can be undone then", Due.STATE, x.undo());
        Due.is("28 an ACT behind it can", 0, x.say(0, 1) == 1 ? x.undo() : 9);
        Due.is("28 undone as far as the IMAGE", 0, x.stand(0));
        Due.is("28 restored twice", 1, x.restore(1) + x.restore(1) - 1);
        x.feed('c');
        x.row(4, 1, 7);
        x.ask(0, 1);
        x.restore(1);
        Due.is("28 the tape stays", 1, x.count(7));
        Due.is("28 ROWS stay", 7, x.drop(4));
        Due.is("28 THE TRACE stays", 21, x.trace(0));
        restoreOfAnotherCourt();
    }

    private static void restoreOfAnotherCourt() {
        BelievedWords x = Due.told("c3,4,5;m0,1;x0,2;l;k;");
        x.say(1, 5);
        x.image(0);
        Due.tell(x, "c6,63,1;b;w;q;");
        x.image(1);
        x.say(0, 0);
        x.restore(0);
        Due.is("28 another COURT: FACTS", 3, x.count(1));
        Due.is("28 another COURT: RULES", 2, x.count(2));
        Due.is("28 another COURT: PEOPLE", 2, x.count(3));
        Due.is("28 another COURT: PRICE", 5, x.count(4));
        Due.is("28 another COURT: what is SO", 4, x.stand(0));
        Due.is("28 another COURT: what was SAID of", 4, x.stand(1));
        Due.is("28 another COURT: its RULES bar", Due.NONE, x.makes(0, 1));
        Due.is("28 another COURT: its RULES are told", 1, x.rule(1, 0));
        Due.is("28 another COURT: its KINDS", 5, x.kind(1));
        Due.is("28 another COURT: no person 2", Due.BAD, x.kind(2));
        Due.is("28 another COURT: no FACT 3", Due.BAD, x.say(0, 6));
        x.restore(1);
        Due.is("28 the later COURT: FACTS", 6, x.count(1));
        Due.is("28 the later COURT: no RULES", 0, x.count(2));
        Due.is("28 the later COURT: none bars", 62, x.makes(1, 1));
        Due.is("28 the later COURT: what is SO", 63, x.stand(0));
        Due.is("28 the later COURT: nothing was SAID", 0, x.stand(3));
    }
}
