/** Promises 1, 9 to 15, 27 and 28: SAYINGS, pardons, RULES struck, all undone, IMAGES. */
public final class DeedsTest {
    public static void main(String[] args) {
        newObject();
        sayingsByKinds();
        rulesAndCells();
        rulesOfOld();
        pardons();
        strikes();
        undoing();
        manyActs();
        images();
        Due.end();
    }

    private static void newObject() {
        BelievedWords x = new BelievedWords();
        for (int what = 0; what <= 7; what++) {
            Due.is("count(" + what + ")", 0, x.count(what));
        }
        Due.is("count(-1)", Due.BAD, x.count(-1));
        Due.is("count(8)", Due.BAD, x.count(8));
        Due.is("stand(9)", Due.STATE, x.stand(9));
        Due.is("say(0,0)", Due.BAD, x.say(0, 0));
        Due.is("pardon(0)", Due.BAD, x.pardon(0));
        Due.is("undo()", Due.STATE, x.undo());
        Due.is("fault()", 0, x.fault());
        Due.is("status()", 0, x.status());
        Due.is("trace(0)", Due.NONE, x.trace(0));
        Due.is("image(0)", Due.STATE, x.image(0));
        Due.is("restore(1)", Due.STATE, x.restore(1));
        Due.is("shortest with wrong numbers", Due.STATE, x.shortest(-1, 1, 7));
        Due.is("cheapest with wrong numbers", Due.STATE, x.cheapest(-1, 1, 7));
        Due.is("giveUp with wrong numbers", Due.STATE, x.giveUp(-1, 7));
        Due.is("order with wrong numbers", Due.STATE, x.order(-1, -7));
        Due.is("ever with wrong numbers", Due.STATE, x.ever(7));
        Due.is("drawn with wrong numbers", Due.STATE, x.drawn(-1, 0, 7));
        Due.is("temper with wrong numbers", Due.STATE, x.temper(-1, 11, 9, 0, 0, 7));
    }

    private static void sayingsByKinds() {
        BelievedWords x = Due.told("c3,0,2;l;b;w;q;k;");
        Due.is("a liar: 1 is", 2, x.say(0, 3));
        Due.is("a braggart: 2 is, and 0", 7, x.say(1, 5));
        Due.is("a braggart: 0 is not, and 1", 4, x.say(1, 0));
        Due.is("a wit: 2 is, so it is not", 0, x.say(2, 5));
        Due.is("a wit: 0 is not, so it is", 1, x.say(2, 0));
        Due.is("a quiet one: 0 is not", 1, x.say(3, 0));
        Due.is("stand(2)", 2 * 7, x.stand(2));
        Due.is("stand(3)", 6, x.stand(3));
        Due.is("a child of what was SAID", 1, x.say(4, 0));
        Due.is("stand(1)", 7, x.stand(1));
        Due.is("pardon(1)", 5, x.pardon(1));
        Due.is("a child of what was not", 3, x.say(4, 3));
        Due.is("a child anew", 3, x.say(4, 2));
        Due.is("say(5,0)", Due.BAD, x.say(5, 0));
        Due.is("say(-1,0)", Due.BAD, x.say(-1, 0));
        Due.is("say(0,6)", Due.BAD, x.say(0, 6));
        Due.is("say(0,-1)", Due.BAD, x.say(0, -1));
        Due.is("stand(4)", Due.BAD, x.stand(4));
        Due.is("stand(-1)", Due.BAD, x.stand(-1));
        x = Due.told("c2,0,1;b;k;");
        Due.is("a braggart's next FACT is not SAID of", 3, x.say(0, 1));
        Due.is("stand(1)", 1, x.stand(1));
        Due.is("so a child's saying of it becomes so", 1, x.say(1, 2));
        x = Due.told("c1,0,5;b;");
        Due.is("the only FACT's next is itself", 1, x.say(0, 1));
        Due.is("COST of one", 5, x.stand(2));
    }

    private static void rulesAndCells() {
        BelievedWords x = Due.told("c4,1,3;m0,1;m1,2;x0,3;l;k;");
        Due.is("RULES look at all that is SO", 7, x.say(0, 4));
        Due.is("COST", 6, x.stand(2));
        Due.is("3 can not be with 0", Due.NONE, x.say(0, 7));
        Due.is("cell(0)", 1, x.cell(0));
        Due.is("stand(0)", 7, x.stand(0));
        Due.is("stand(1): it was SAID of 3", 12, x.stand(1));
        Due.is("stand(2)", 6, x.stand(2));
        Due.is("stand(3)", 2, x.stand(3));
        Due.is("a child: 3 was SAID, if not CARRIED OUT", 7, x.say(1, 7));
        Due.is("cell(1)", 0, x.cell(1));
        Due.is("pardon(3)", 4, x.pardon(3));
        Due.is("a child: 3 was not SAID", Due.NONE, x.say(1, 7));
        Due.is("cell(1)", 1, x.cell(1));
        Due.is("0 is not; what it made stays", 6, x.say(0, 0));
        Due.is("COST", 9, x.stand(2));
        Due.is("3 is", 14, x.say(0, 7));
        Due.is("0 is: not with 3", Due.NONE, x.say(0, 1));
        Due.is("cell(0)", 2, x.cell(0));
        Due.is("cell(2)", Due.BAD, x.cell(2));
        Due.is("cell(-1)", Due.BAD, x.cell(-1));
    }

    private static void rulesOfOld() {
        BelievedWords x = Due.told("c3,3,1;x1,0;m2,1;q;l;");
        Due.is("already two are SO that can not be", Due.NONE, x.say(0, 5));
        Due.is("cell(0)", 1, x.cell(0));
        Due.is("of another fact, too", Due.NONE, x.say(1, 5));
        Due.is("cell(1)", 1, x.cell(1));
        Due.is("out of it", 2, x.say(1, 0));
        Due.is("a quiet one then", 2, x.say(0, 5));
        x = Due.told("c3,1,1;m0,1;m1,2;q;");
        Due.is("a quiet one's SAYING lets RULES look", 7, x.say(0, 0));
        Due.is("COST", 2, x.stand(2));
        x = Due.told("c2,0,1;m0,1;m1,0;l;");
        Due.is("a ring", 3, x.say(0, 1));
        Due.is("a ring is not left by one SAYING", 3, x.say(0, 0));
        Due.is("COST of what comes back", 2, x.stand(2));
    }

    private static void pardons() {
        BelievedWords x = Due.told("c3,0,1;l;");
        Due.is("pardon(0)", Due.STATE, x.pardon(0));
        Due.is("pardon(3)", Due.BAD, x.pardon(3));
        Due.is("pardon(-1)", Due.BAD, x.pardon(-1));
        x.say(0, 1);
        x.say(0, 5);
        Due.is("stand(1)", 5, x.stand(1));
        Due.is("pardon(0)", 4, x.pardon(0));
        Due.is("stand(3) counts on", 2, x.stand(3));
        Due.is("pardon(0) again", Due.STATE, x.pardon(0));
        Due.is("count(6)", 3, x.count(6));
        Due.is("stand(0)", 5, x.stand(0));
    }

    private static void strikes() {
        BelievedWords x = Due.told("c3,0,1;m0,1;x1,2;l;");
        Due.is("strike(0,0)", Due.STATE, x.strike(0, 0));
        Due.is("strike(2,1)", Due.BAD, x.strike(2, 1));
        Due.is("strike(-1,1)", Due.BAD, x.strike(-1, 1));
        Due.is("strike(0,2)", Due.BAD, x.strike(0, 2));
        Due.is("strike(0,-1)", Due.BAD, x.strike(0, -1));
        Due.is("count(6)", 0, x.count(6));
        Due.is("makes(0,1)", 3, x.makes(0, 1));
        Due.is("strike(0,1)", 1, x.strike(0, 1));
        Due.is("makes(0,1) then", 1, x.makes(0, 1));
        Due.is("rule(0,3)", 1, x.rule(0, 3));
        Due.is("strike(0,1) again", Due.STATE, x.strike(0, 1));
        Due.is("strike(1,1)", 2, x.strike(1, 1));
        x.say(0, 3);
        Due.is("what could not be", 6, x.say(0, 5));
        Due.is("count(2) counts them on", 2, x.count(2));
        Due.is("strike(1,0)", 1, x.strike(1, 0));
        Due.is("what is SO is not looked at", 6, x.stand(0));
        Due.is("but by the next SAYING", Due.NONE, x.say(0, 1));
        Due.is("rule(1,3)", 0, x.rule(1, 3));
    }

    private static void undoing() {
        BelievedWords x = Due.told("c3,0,2;m0,1;x1,2;l;q;");
        x.say(0, 1);
        x.say(0, 5);
        x.pardon(0);
        x.strike(1, 1);
        Due.is("say of what is struck", 7, x.say(0, 5));
        Due.is("count(6)", 5, x.count(6));
        Due.is("undo() a SAYING", 4, x.undo());
        Due.is("stand(0)", 3, x.stand(0));
        Due.is("stand(2)", 4, x.stand(2));
        Due.is("stand(3)", 2, x.stand(3));
        Due.is("undo() a strike", 3, x.undo());
        Due.is("rule(1,3)", 0, x.rule(1, 3));
        Due.is("makes(0,5) by the RULE that stands again", Due.NONE, x.makes(0, 5));
        Due.is("undo() a pardon", 2, x.undo());
        Due.is("stand(1)", 5, x.stand(1));
        Due.is("undo() of what was not CARRIED OUT", 1, x.undo());
        Due.is("cell(0)", 0, x.cell(0));
        Due.is("stand(1)", 1, x.stand(1));
        Due.is("stand(3)", 1, x.stand(3));
        Due.is("undo() the first", 0, x.undo());
        Due.is("stand(0)", 0, x.stand(0));
        Due.is("stand(2)", 0, x.stand(2));
        Due.is("undo() of none", Due.STATE, x.undo());
        Due.is("say refused", Due.BAD, x.say(9, 0));
        Due.is("count(6)", 0, x.count(6));
        x.say(1, 0);
        Due.is("an ACT by which nothing becomes another", 1, x.count(6));
    }

    private static void manyActs() {
        BelievedWords x = Due.told("c6,0,1;l;");
        for (int i = 0; i < 30; i++) {
            x.say(0, 2 * (i % 6) + (i / 6 + 1) % 2);
        }
        Due.is("count(6)", 24, x.count(6));
        Due.is("stand(3)", 30, x.stand(3));
        for (int left = 23; left >= 0; left--) {
            Due.is("undo()", left, x.undo());
        }
        Due.is("undo() of the forgotten", Due.STATE, x.undo());
        Due.is("stand(3)", 6, x.stand(3));
        Due.is("stand(0)", 63, x.stand(0));
        Due.is("say", 62, x.say(0, 0));
        Due.is("undo()", 0, x.undo());
        Due.is("stand(0)", 63, x.stand(0));
        // behind 512 calls all is free: this looks only at the number that is told
        for (int i = 6; i < 999; i++) {
            x.say(0, 1);
        }
        Due.is("say the 1000th", Due.FULL, x.say(0, 1));
        Due.is("say the 1000th by nobody", Due.BAD, x.say(1, 1));
        Due.is("stand(3)", 999, x.stand(3));
    }

    private static void images() {
        BelievedWords x = Due.told("c3,1,4;m0,1;x1,2;l;k;");
        x.say(0, 3);
        x.say(0, 5);
        x.strike(0, 1);
        Due.is("image(0)", 1, x.image(0));
        Due.is("image(2)", Due.BAD, x.image(2));
        Due.is("image(-1)", Due.BAD, x.image(-1));
        Due.is("restore(1)", Due.STATE, x.restore(1));
        Due.is("restore(2)", Due.BAD, x.restore(2));
        Due.is("restore(-1)", Due.BAD, x.restore(-1));
        Due.is("image(..) is no ACT", 3, x.count(6));
        x.feed('c');
        x.row(0, 0, 1);
        x.ask(0, 1);
        x.court();
        Due.is("court() of another", 1, Due.tell(x, "c1,0,1;q;"));
        x.say(0, 0);
        Due.is("image(1)", 1, x.image(1));
        x.feed('c');
        Due.is("restore(0)", 1, x.restore(0));
        Due.is("stand(0)", 3, x.stand(0));
        Due.is("stand(1)", 6, x.stand(1));
        Due.is("stand(2)", 4, x.stand(2));
        Due.is("stand(3)", 2, x.stand(3));
        Due.is("cell(0)", 1, x.cell(0));
        Due.is("rule(0,3)", 1, x.rule(0, 3));
        Due.is("rule(1,3)", 0, x.rule(1, 3));
        Due.is("count(1)", 3, x.count(1));
        Due.is("count(2)", 2, x.count(2));
        Due.is("count(3)", 2, x.count(3));
        Due.is("count(4)", 4, x.count(4));
        Due.is("undo()", Due.STATE, x.undo());
        Due.is("count(7)", 1, x.count(7));
        Due.is("count(0)", 1, x.count(0));
        Due.is("trace(0)", 21, x.trace(0));
        Due.is("makes(1,5): it was SAID", 3, x.makes(1, 5));
        x.say(0, 0);
        x.say(0, 2);
        Due.is("restore(0) again", 1, x.restore(0));
        Due.is("stand(0)", 3, x.stand(0));
        Due.is("restore(1)", 1, x.restore(1));
        Due.is("stand(3)", 1, x.stand(3));
        Due.is("count(1)", 1, x.count(1));
        Due.is("image(1) anew", 1, x.image(1));
        x.restore(0);
        x.say(0, 4);
        x.image(0);
        x.say(0, 2);
        x.restore(0);
        Due.is("stand(3) of the later IMAGE", 3, x.stand(3));
    }
}
