/** Promises 6 to 8: THE TAPE, a COURT that is read, FAULTS. */
public final class TextTest {
    private static final String LAW = "c4,1,3;";
    private static final String EIGHT = "m0,1;m1,2;m2,3;m3,0;x0,1;x1,2;x2,3;x3,0;";

    public static void main(String[] args) {
        tape();
        faultsOfTheLaw();
        faultsOfRules();
        faultsOfPeople();
        whatStays();
        whatBegins();
        Due.end();
    }

    private static void faulty(String text, int place, int number) {
        BelievedWords x = new BelievedWords();
        Due.is("court() of " + text, -1000100 - place, Due.tell(x, text));
        Due.is("fault() of " + text, number, x.fault());
        Due.is("count(7) behind " + text, 0, x.count(7));
        Due.is("stand(0) behind " + text, Due.STATE, x.stand(0));
    }

    private static void sound(String text, int people) {
        BelievedWords x = new BelievedWords();
        Due.is("court() of " + text, people, Due.tell(x, text));
        Due.is("fault() of " + text, 0, x.fault());
        Due.is("count(7) behind " + text, 0, x.count(7));
    }

    private static void tape() {
        BelievedWords x = new BelievedWords();
        Due.is("feed(-1)", Due.BAD, x.feed(-1));
        Due.is("feed(256)", Due.BAD, x.feed(256));
        for (int i = 1; i <= 120; i++) {
            Due.is("feed " + i, i, x.feed(i % 2 == 0 ? 255 : 0));
        }
        Due.is("feed 121", Due.FULL, x.feed('c'));
        Due.is("feed 121 of no byte", Due.BAD, x.feed(256));
        Due.is("count(7)", 120, x.count(7));
        Due.is("court()", -1000100, x.court());
        Due.is("fault()", 1, x.fault());
        Due.is("feed behind", 1, x.feed('c'));
    }

    private static void faultsOfTheLaw() {
        faulty("", 0, 1);
        faulty("m", 0, 1);
        faulty("C", 0, 1);
        faulty(" c4,1,3;l;", 0, 1);
        faulty("4", 0, 1);
        faulty("c", 1, 1);
        faulty("cl", 1, 1);
        faulty("c,", 1, 1);
        faulty("c123,1,1;l;", 1, 1);
        faulty("c1234567890123456789", 1, 1);
        faulty("c006,1,1;l;", 1, 1);
        faulty("c0,0,1;l;", 1, 2);
        faulty("c7,0,1;l;", 1, 2);
        faulty("c99", 1, 2);
        faulty("c6", 2, 1);
        faulty("c6;", 2, 1);
        faulty("c6,64,1;l;", 3, 2);
        faulty("c5,32,1;l;", 3, 2);
        faulty("c1,2,1;l;", 3, 2);
        faulty("c1,1,0;l;", 5, 2);
        faulty("c1,1,10;l;", 5, 2);
        faulty("c1,1,1,", 6, 1);
        faulty("c1,1,1;", 7, 1);
        faulty("c1,1,1\u00e9", 6, 1);
        faulty("c4,1\u00e91,3;l;", 4, 1);
        faulty("c4,1 ,1;l;", 4, 1);
        sound("c6,63,9;l;", 1);
        sound("c06,00,01;q;", 1);
    }

    private static void faultsOfRules() {
        faulty(LAW + "m;", 8, 1);
        faulty(LAW + "m4,0;l;", 8, 2);
        faulty(LAW + "m0;0;l;", 9, 1);
        faulty(LAW + "m0,4;l;", 10, 2);
        faulty(LAW + "m0,0;l;", 10, 2);
        faulty(LAW + "m0,000;l;", 10, 1);
        faulty(LAW + "m0,1l;", 11, 1);
        faulty(LAW + "m0,1;", 12, 1);
        faulty(LAW + "x0,1;m0,1;x0,1;l;", 20, 2);
        faulty(LAW + "x0,1;x1,0;m1,0;m1,00;l;", 25, 2);
        faulty(LAW + EIGHT + "x0,2;l;", 47, 3);
        faulty(LAW + EIGHT + "m99", 47, 3);
        faulty(LAW + EIGHT + "c", 47, 1);
        faulty(LAW + EIGHT, 47, 1);
        faulty("c1,0,1;m0,0;l;", 10, 2);
        faulty(LAW + "m0,1;c4,1,3;", 12, 1);
        sound(LAW + EIGHT + "l;", 1);
        sound(LAW + "x0,1;x1,0;m1,0;m0,1;l;", 1);
        sound(LAW + "m00,01;l;", 1);
    }

    private static void faultsOfPeople() {
        faulty(LAW + "l", 8, 1);
        faulty(LAW + "l,", 8, 1);
        faulty(LAW + "l;m0,1;", 9, 1);
        faulty(LAW + "l;x0,1;", 9, 1);
        faulty(LAW + "p;", 7, 1);
        faulty(LAW + "l;l;l;l;l;l;", 17, 3);
        faulty(LAW + "l;l;l;l;l;k", 17, 3);
        faulty(LAW + "l;l;l;l;l;m", 17, 1);
        faulty(LAW + "l;l;l;l;l;;", 17, 1);
        faulty(LAW + "l;l;l;l;l", 16, 1);
        faulty(LAW + "l;5", 9, 1);
        faulty(LAW + ";", 7, 1);
        sound(LAW + "l;l;l;l;l;", 5);
        sound(LAW + "k;", 1);
    }

    private static void whatStays() {
        BelievedWords x = Due.told("c3,1,2;m0,1;l;q;");
        x.row(0, 0, 3);
        x.say(0, 5);
        x.strike(0, 1);
        Due.is("court() of a fault", -1000101, Due.tell(x, "c"));
        Due.is("fault()", 1, x.fault());
        Due.is("stand(0)", 7, x.stand(0));
        Due.is("count(1)", 3, x.count(1));
        Due.is("count(2)", 1, x.count(2));
        Due.is("count(3)", 2, x.count(3));
        Due.is("count(4)", 2, x.count(4));
        Due.is("count(6)", 2, x.count(6));
        Due.is("rule(0,3)", 1, x.rule(0, 3));
        Due.is("court() of another fault", -1000110, Due.tell(x, "c3,1,2;m0,0;"));
        Due.is("fault() then", 2, x.fault());
        Due.is("undo()", 1, x.undo());
        Due.is("court()", 1, Due.tell(x, "c2,0,9;b;"));
        Due.is("fault() behind a sound text", 2, x.fault());
        Due.is("ROWS stay", 1, x.count(0));
    }

    private static void whatBegins() {
        BelievedWords x = Due.told("c3,6,2;m0,1;x1,2;l;k;");
        Due.is("what is SO at first is not looked at by RULES", 6, x.stand(0));
        x.say(0, 2);
        x.say(1, 3);
        x.say(1, 3);
        x.strike(0, 1);
        Due.is("count(6)", 4, x.count(6));
        Due.is("court() of the same", 2, Due.tell(x, "c3,6,2;m0,1;x1,2;l;k;"));
        x.say(0, 3);
        x.say(1, 5);
        Due.is("cell(0)", 1, x.cell(0));
        Due.is("cell(1)", 1, x.cell(1));
        Due.is("court() anew", 2, Due.tell(x, "c2,3,7;x1,0;w;b;"));
        Due.is("stand(0)", 3, x.stand(0));
        Due.is("stand(1)", 0, x.stand(1));
        Due.is("stand(2)", 0, x.stand(2));
        Due.is("stand(3)", 0, x.stand(3));
        Due.is("cell(0)", 0, x.cell(0));
        Due.is("cell(1)", 0, x.cell(1));
        Due.is("count(6)", 0, x.count(6));
        Due.is("undo()", Due.STATE, x.undo());
        Due.is("rule(0,0)", 1, x.rule(0, 0));
        Due.is("rule(0,1)", 1, x.rule(0, 1));
        Due.is("rule(0,2)", 0, x.rule(0, 2));
        Due.is("rule(0,3)", 0, x.rule(0, 3));
        Due.is("rule(1,0)", Due.BAD, x.rule(1, 0));
        Due.is("rule(-1,0)", Due.BAD, x.rule(-1, 0));
        Due.is("rule(0,-1)", Due.BAD, x.rule(0, -1));
        Due.is("rule(0,4)", Due.BAD, x.rule(0, 4));
        Due.is("kind(0)", 3, x.kind(0));
        Due.is("kind(1)", 2, x.kind(1));
        Due.is("kind(2)", Due.BAD, x.kind(2));
        Due.is("count(4)", 7, x.count(4));
    }
}
