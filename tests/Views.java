/**
 * What can be seen of an object, from several sides. Most views change it, so each is taken of an object
 * of its own, in fewer than the 512 calls that an object is promised for.
 */
final class Views {
    static final int ALL = 6, NOW = 0, AHEAD = 1, BACK = 2;

    private Views() {
    }

    static String view(BelievedWords x, int which) {
        StringBuilder s = new StringBuilder();
        switch (which) {
            case 0: look(s, x); break;
            case 1: lookAhead(s, x); break;
            case 2: lookBack(s, x); break;
            case 3: lookAtImages(s, x); break;
            case 4: lookAtTape(s, x); break;
            default: lookAtRows(s, x); break;
        }
        return s.toString();
    }

    private static void put(StringBuilder s, long answer) {
        s.append(answer).append(' ');
    }

    private static void look(StringBuilder s, BelievedWords x) {
        for (int i = 0; i < 8; i++) {
            put(s, x.count(i));
            put(s, x.stand(i));
            put(s, x.cell(i));
            put(s, x.kind(i));
            put(s, x.trace(i));
            for (int what = 0; what <= 3; what++) {
                put(s, x.rule(i, what));
            }
        }
        put(s, x.fault());
    }

    private static void lookAhead(StringBuilder s, BelievedWords x) {
        for (int person = 0; person < 5; person++) {
            for (int saying = 0; saying < 12; saying++) {
                put(s, x.makes(person, saying));
            }
            put(s, x.idle(person));
        }
        for (int what = 0; what <= 1; what++) {
            put(s, x.ever(what));
            put(s, x.shortest(8, 2, what));
            put(s, x.cheapest(8, 2, what));
            put(s, x.shortest(0, 1, what));
            put(s, x.cheapest(1, 0, what));
            put(s, x.giveUp(15, what));
            put(s, x.drawn(60, 5, what));
        }
        put(s, x.order(15, 3));
    }

    private static void lookBack(StringBuilder s, BelievedWords x) {
        for (int i = 0; i < 12; i++) {
            put(s, x.undo());
            for (int what = 0; what <= 3; what++) {
                put(s, x.stand(what));
                put(s, x.rule(what, 3));
                put(s, x.cell(what));
            }
            put(s, x.makes(4, 7));
            put(s, x.makes(0, 3));
        }
    }

    private static void lookAtImages(StringBuilder s, BelievedWords x) {
        put(s, x.restore(1));
        put(s, x.restore(0));
        look(s, x);
        put(s, x.makes(1, 3));
    }

    private static void lookAtTape(StringBuilder s, BelievedWords x) {
        put(s, x.feed(';'));
        put(s, x.court());
        look(s, x);
    }

    private static void lookAtRows(StringBuilder s, BelievedWords x) {
        x.court();
        Due.tell(x, "c6,0,1;l;");
        for (int row = 0; row < 8; row++) {
            for (int i = 0; i < 12; i++) {
                put(s, Due.item(x, row, i));
            }
            put(s, x.set(row, 0, 70000));
            put(s, x.drop(row));
        }
    }
}
