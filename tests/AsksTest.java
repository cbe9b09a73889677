/** Promises 29 to 33: KINDS, ASKS of PEOPLE, THE TRACE, count(). */
public final class AsksTest {
    public static void main(String[] args) {
        kinds();
        asks();
        wrongAsks();
        counts();
        Due.end();
    }

    /** Two facts are SO that can not be, so every SAYING puts one in a CELL: by 1, 2, 3, 4, 5 times. */
    private static BelievedWords court() {
        BelievedWords x = Due.told("c3,7,1;x0,1;x0,2;x1,2;l;b;w;q;k;");
        for (int person = 0; person < 5; person++) {
            for (int i = 0; i <= person; i++) {
                Due.is("say", Due.NONE, x.say(person, 1));
            }
        }
        return x;
    }

    private static void kinds() {
        BelievedWords x = court();
        int[][] is = {{0, 1}, {0, 1, 2}, {0, 1, 3}, {0, 4}, {0, 4, 5}};
        for (int person = 0; person < 5; person++) {
            Due.is("kind(" + person + ")", person + 1, x.kind(person));
            for (int kind = 0; kind <= 5; kind++) {
                boolean such = false;
                for (int one : is[person]) {
                    such |= one == kind;
                }
                String call = "as(" + person + "," + kind + ")";
                Due.is(call, such ? person : Due.KIND, x.as(person, kind));
                Due.is("status() behind " + call, such ? 0 : 3, x.status());
            }
            Due.is("as(" + person + ",6)", Due.BAD, x.as(person, 6));
            Due.is("as(" + person + ",-1)", Due.BAD, x.as(person, -1));
        }
        Due.is("kind(5)", Due.BAD, x.kind(5));
        Due.is("kind(-1)", Due.BAD, x.kind(-1));
        Due.is("as(5,0)", Due.BAD, x.as(5, 0));
        Due.is("as(-1,0)", Due.BAD, x.as(-1, 0));
    }

    private static void asked(BelievedWords x, int one, int what, int answer, int... bodies) {
        String call = "ask(" + one + "," + what + ")";
        Due.is(call, answer, x.ask(one, what));
        for (int i = 0; i < bodies.length; i++) {
            Due.is("trace(" + i + ") behind " + call, bodies[i], x.trace(i));
        }
        Due.is("trace() of no more behind " + call, Due.NONE, x.trace(bodies.length));
    }

    private static void asks() {
        BelievedWords x = court();
        asked(x, 0, 1, 7, 21, 20);
        asked(x, 0, 0, 1 + 7, 11, 10, 21, 20);
        asked(x, 1, 1, 2 * 8, 24, 21, 20);
        asked(x, 1, 0, -(2 + 16), 12, 11, 10, 24, 21, 20);
        asked(x, 2, 1, 2 + 7 - 1000, 22, 21, 20);
        asked(x, 2, 0, 3 - 991, 11, 10, 22, 21, 20);
        asked(x, 3, 0, 4 - 100, 13, 10);
        asked(x, 3, 1, 3 - (4 - 100), 23, 20, 13, 10);
        asked(x, 4, 0, 2 * (5 - 100), 14, 13, 10);
        asked(x, 4, 1, 4 - 2 * (5 - 100), 23, 20, 14, 13, 10);
    }

    private static void wrongAsks() {
        BelievedWords x = court();
        x.ask(3, 0);
        Due.is("ask(5,0)", Due.BAD, x.ask(5, 0));
        Due.is("ask(-1,0)", Due.BAD, x.ask(-1, 0));
        Due.is("ask(0,2)", Due.BAD, x.ask(0, 2));
        Due.is("ask(0,-1)", Due.BAD, x.ask(0, -1));
        Due.is("THE TRACE stays", 13, x.trace(0));
        Due.is("THE TRACE stays", 10, x.trace(1));
        Due.is("THE TRACE stays", Due.NONE, x.trace(2));
        Due.is("trace(-1)", Due.NONE, x.trace(-1));
        Due.is("trace(16)", Due.NONE, x.trace(16));
        Due.is("trace(most)", Due.NONE, x.trace(Integer.MAX_VALUE));
    }

    private static void counts() {
        BelievedWords x = court();
        x.row(2, 0, 0);
        x.row(3, 0, 0);
        x.feed('c');
        Due.is("count(0)", 2, x.count(0));
        Due.is("count(1)", 3, x.count(1));
        Due.is("count(2)", 3, x.count(2));
        Due.is("count(3)", 5, x.count(3));
        Due.is("count(4)", 1, x.count(4));
        Due.is("count(5)", 7, x.count(5));
        Due.is("count(6)", 15, x.count(6));
        Due.is("count(7)", 1, x.count(7));
        Due.is("count(8)", Due.BAD, x.count(8));
    }
}
