/** The boundary cases of KINDS of PEOPLE, ASKS, THE TRACE (terms, parts 3 and 4), and of promises 29 to 33. */
public final class EdgesOfAsksTest {
    private static final int LEAST = Integer.MIN_VALUE, MOST = Integer.MAX_VALUE;
    private static final String ALL = "c6,5,3;m0,1;l;b;w;q;k;";

    public static void main(String[] args) {
        kind();
        as();
        bodiesOfSize();
        bodiesOfMark();
        whatBodiesLookAt();
        ask();
        trace();
        count();
        constants();
        Due.end();
    }

    // ---- 29 kind

    private static void kind() {
        BelievedWords x = Due.told(ALL);
        Due.is("29 the first person, the least KIND", 1, x.kind(0));
        Due.is("29 a braggart", 2, x.kind(1));
        Due.is("29 a wit", 3, x.kind(2));
        Due.is("29 a quiet one", 4, x.kind(3));
        Due.is("29 the last person, the greatest KIND", 5, x.kind(4));
        Due.is("29 a person behind the last", Due.BAD, x.kind(5));
        Due.is("29 a person ahead of the first", Due.BAD, x.kind(-1));
        Due.is("29 a person, the most", Due.BAD, x.kind(MOST));
        Due.is("29 a person, the least", Due.BAD, x.kind(LEAST));
        Due.is("29 behind the only person", Due.BAD, Due.told("c1,0,1;k;").kind(1));
        Due.is("29 no COURT, so no PERSON", Due.BAD, new BelievedWords().kind(0));
    }

    // ---- 30 as

    private static void isOnly(int person, int... kinds) {
        for (int kind = 0; kind <= 5; kind++) {
            BelievedWords x = Due.told(ALL);
            boolean such = false;
            for (int one : kinds) {
                such |= one == kind;
            }
            Due.is("30 person " + person + " as KIND " + kind, such ? person : Due.KIND, x.as(person, kind));
            Due.is("30 person " + person + " as KIND " + kind + ": status()", such ? 0 : 3, x.status());
        }
    }

    private static void as() {
        isOnly(0, 0, 1);
        isOnly(1, 0, 1, 2);
        isOnly(2, 0, 1, 3);
        isOnly(3, 0, 4);
        isOnly(4, 0, 4, 5);
        BelievedWords x = Due.told(ALL);
        Due.is("30 a KIND behind the last", Due.BAD, x.as(0, 6));
        Due.is("30 a KIND ahead of the first", Due.BAD, x.as(0, -1));
        Due.is("30 a KIND, the most", Due.BAD, x.as(0, MOST));
        Due.is("30 a KIND, the least", Due.BAD, x.as(0, LEAST));
        Due.is("30 a person behind the last", Due.BAD, x.as(5, 0));
        Due.is("30 a person ahead of the first", Due.BAD, x.as(-1, 0));
        Due.is("30 BAD person ahead of KIND", Due.BAD, x.as(5, 3));
        Due.is("30 a person, the most", Due.BAD, x.as(MOST, 0));
        Due.is("30 a person, the least", Due.BAD, x.as(LEAST, 0));
        Due.is("30 no COURT, so no PERSON", Due.BAD, new BelievedWords().as(0, 0));
        Due.is("30 taken as one, it is of its KIND yet", 2, x.as(1, 1) == 1 ? x.kind(1) : 9);
    }

    // ---- 31 ask; the BODIES of part 4

    /** All were in a CELL by 1, 2, 3, 4, 5 times; 7 is SO. */
    private static BelievedWords jailed() {
        BelievedWords x = Due.told("c3,7,1;x0,1;l;b;w;q;k;");
        for (int person = 0; person < 5; person++) {
            for (int i = 0; i <= person; i++) {
                x.say(person, 5);
            }
        }
        return x;
    }

    private static void asked(String sentence, int one, int what, int answer, int... bodies) {
        BelievedWords x = jailed();
        Due.is("31 " + sentence, answer, x.ask(one, what));
        for (int i = 0; i < bodies.length; i++) {
            Due.is("32 " + sentence + ": " + i, bodies[i], x.trace(i));
        }
        Due.is("32 " + sentence + ": no more", Due.NONE, x.trace(bodies.length));
    }

    private static void bodiesOfSize() {
        asked("SIZE of a liar: 11, what 10 gives, and MARK", 0, 0, 1 + (0 + 7), 11, 10, 21, 20);
        asked("SIZE of a braggart: 12, 0 less what 11 gives", 1, 0, -(2 + 2 * (1 + 7)), 12, 11, 10, 24, 21, 20);
        asked("SIZE of a wit: the nearest KIND's, 11", 2, 0, 3 + (2 + 7 - 1000), 11, 10, 22, 21, 20);
        asked("SIZE of a quiet one: 13, what 10 gives, less 100", 3, 0, 4 - 100, 13, 10);
        asked("SIZE of a child: 14, what 13 gives, twice", 4, 0, 2 * (5 - 100), 14, 13, 10);
    }

    private static void bodiesOfMark() {
        asked("MARK of a liar: 21, what 20 gives, and what is SO", 0, 1, 0 + 7, 21, 20);
        asked("MARK of a braggart: 24, what 21 gives, twice", 1, 1, 2 * (1 + 7), 24, 21, 20);
        asked("MARK of a wit: 22, what 21 gives, less 1000", 2, 1, 2 + 7 - 1000, 22, 21, 20);
        asked("MARK of a quiet one: 23, what 20 gives, less SIZE", 3, 1, 3 - (4 - 100), 23, 20, 13, 10);
        asked("MARK of a child: the nearest KIND's, 23", 4, 1, 4 - 2 * (5 - 100), 23, 20, 14, 13, 10);
    }

    private static void whatBodiesLookAt() {
        BelievedWords x = Due.told("c6,63,1;l;");
        Due.is("31 never in a CELL", 63, x.ask(0, 0));
        Due.is("31 all SO", 63, x.ask(0, 1));
        x.say(0, 0);
        Due.is("31 what is SO now", 62, x.ask(0, 1));
        x.undo();
        Due.is("31 what is SO, all undone", 63, x.ask(0, 1));
        x = Due.told("c1,0,1;l;");
        Due.is("31 the first person, nothing SO", 0, x.ask(0, 1));
        x = Due.told("c1,0,1;q;q;q;q;q;");
        Due.is("31 the last person's number", 4 + 100, x.ask(4, 1));
    }

    private static void ask() {
        BelievedWords x = jailed();
        Due.is("31 what above 1", Due.BAD, x.ask(0, 2));
        Due.is("31 what below 0", Due.BAD, x.ask(0, -1));
        Due.is("31 what, the most", Due.BAD, x.ask(0, MOST));
        Due.is("31 what, the least", Due.BAD, x.ask(0, LEAST));
        Due.is("31 a person behind the last", Due.BAD, x.ask(5, 0));
        Due.is("31 a person ahead of the first", Due.BAD, x.ask(-1, 0));
        Due.is("31 a person, the most", Due.BAD, x.ask(MOST, 0));
        Due.is("31 a person, the least", Due.BAD, x.ask(LEAST, 0));
        Due.is("31 no COURT, so no PERSON", Due.BAD, new BelievedWords().ask(0, 0));
        Due.is("32 refused ASKS leave no TRACE", Due.NONE, x.trace(0));
    }

    // ---- 32 trace

    private static void trace() {
        Due.is("32 THE TRACE is empty at first", Due.NONE, new BelievedWords().trace(0));
        BelievedWords x = jailed();
        Due.is("32 empty ahead of the first ASK", Due.NONE, x.trace(0));
        x.ask(1, 0);
        Due.is("32 the last of the longest", 20, x.trace(5));
        Due.is("32 behind the last of the longest", Due.NONE, x.trace(6));
        Due.is("32 ahead of the first", Due.NONE, x.trace(-1));
        Due.is("32 the sixteenth", Due.NONE, x.trace(15));
        Due.is("32 behind the sixteenth", Due.NONE, x.trace(16));
        Due.is("32 the most", Due.NONE, x.trace(MOST));
        Due.is("32 the least", Due.NONE, x.trace(LEAST));
        x.ask(5, 0);
        x.ask(1, 2);
        Due.is("32 where an ASK is refused it stays", 12, x.trace(0));
        Due.is("32 where an ASK is refused all of it stays", 20, x.trace(5));
        x.ask(0, 1);
        Due.is("32 it is empty ahead of an ASK: the first", 21, x.trace(0));
        Due.is("32 it is empty ahead of an ASK: behind the last", Due.NONE, x.trace(2));
        x.say(0, 0);
        x.undo();
        x.court();
        Due.is("32 other calls leave it", 20, x.trace(1));
    }

    // ---- 33 count

    private static void count() {
        for (int what : new int[] {-1, 8, MOST, LEAST}) {
            Due.is("33 what " + what + ", no COURT", Due.BAD, new BelievedWords().count(what));
            Due.is("33 what " + what, Due.BAD, Due.told(ALL).count(what));
        }
        BelievedWords x = Due.told(ALL);
        Due.is("33 the first: ROWS", 0, x.count(0));
        Due.is("33 FACTS", 6, x.count(1));
        Due.is("33 RULES", 1, x.count(2));
        Due.is("33 PEOPLE", 5, x.count(3));
        Due.is("33 PRICE", 3, x.count(4));
        Due.is("33 what is SO", 5, x.count(5));
        Due.is("33 ACTS", 0, x.count(6));
        Due.is("33 the last: bytes on the tape", 0, x.count(7));
        x.row(7, 0, 0);
        Due.is("33 an empty ROW is one", 1, x.count(0));
        x.drop(7);
        Due.is("33 a ROW that is missing is none", 0, x.count(0));
        x.say(0, 7);
        Due.is("33 what is SO now", 15, x.count(5));
        Due.is("33 an ACT", 1, x.count(6));
        x.undo();
        Due.is("33 an ACT undone", 0, x.count(6));
        x.feed(0);
        Due.is("33 a byte on the tape", 1, x.count(7));
    }

    // ---- the numbers of the face

    private static void constants() {
        Due.is("NONE", -1000000, BelievedWords.NONE);
        Due.is("BAD", -1000001, BelievedWords.BAD);
        Due.is("STATE", -1000002, BelievedWords.STATE);
        Due.is("FULL", -1000003, BelievedWords.FULL);
        Due.is("NULL is -1000010 less 1", -1000011, new BelievedWords().drop(0));
        Due.is("SIZE is -1000010 less 4", -1000014, new BelievedWords().row(0, 0, -1));
        BelievedWords x = Due.told(ALL);
        x.row(0, 0, 0);
        x.row(1, 1, 0);
        Due.is("PLACE is -1000010 less 2", -1000012, x.set(0, 0, 0));
        Due.is("KIND is -1000010 less 3", -1000013, x.as(0, 2));
        Due.is("STORE is -1000010 less 5", -1000015, x.copy(0, 0, 1, 0, 0));
    }
}
