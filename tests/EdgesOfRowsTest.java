/** The boundary cases of the document's terms, part 1 (ROWS), of promises 2 to 5, and of 34. One test for each. */
public final class EdgesOfRowsTest {
    private static final int LEAST = Integer.MIN_VALUE, MOST = Integer.MAX_VALUE;

    public static void main(String[] args) {
        terms();
        row();
        set();
        copy();
        placesOfCopy();
        drop();
        status();
        Due.end();
    }

    // ---- ROWS 0 .. 7 are missing (at first), or have a LANE and 0 to 40 ITEMS, 0 at first

    private static void terms() {
        rowsAreMissingAtFirst();
        itemsAreNoneAtFirst();
        itemsAreNoneAgainInPlaceOfWhatWasThere();
    }

    private static void rowsAreMissingAtFirst() {
        for (int row = 0; row <= 7; row++) {
            Due.is("2 ROW " + row + " is missing at first", Due.IS_NULL, new BelievedWords().drop(row));
        }
        Due.is("33 no ROWS at first", 0, new BelievedWords().count(0));
    }

    private static void itemsAreNoneAtFirst() {
        for (int lane = 0; lane <= 2; lane++) {
            BelievedWords x = Due.reader();
            x.row(5, lane, 40);
            for (int i = 0; i < 40; i++) {
                Due.is("2 ITEM " + i + " of a new ROW of LANE " + lane, 0, Due.item(x, 5, i));
            }
        }
    }

    private static void itemsAreNoneAgainInPlaceOfWhatWasThere() {
        BelievedWords x = Due.reader();
        Due.row(x, 3, 1, 2, 4, 8);
        x.row(3, 2, 4);
        for (int i = 0; i < 4; i++) {
            Due.is("2 ITEM " + i + " of a ROW in place of another", 0, Due.item(x, 3, i));
        }
        Due.row(x, 3, 1, 2, 4, 8);
        x.drop(3);
        x.row(3, 2, 4);
        for (int i = 0; i < 4; i++) {
            Due.is("2 ITEM " + i + " of a ROW that was missing", 0, Due.item(x, 3, i));
        }
    }

    // ---- 2 row

    private static void row() {
        firstAndLastRow();
        firstAndLastLane();
        fewestAndMostItems();
        badAheadOfSize();
        rowsInPlaceOfOthers();
        refusedRowsLeaveWhatIsThere();
    }

    private static void firstAndLastRow() {
        Due.is("2 the first ROW", 1, new BelievedWords().row(0, 0, 1));
        Due.is("2 the last ROW", 1, new BelievedWords().row(7, 0, 1));
        Due.is("2 a ROW behind the last", Due.BAD, new BelievedWords().row(8, 0, 1));
        Due.is("2 a ROW ahead of the first", Due.BAD, new BelievedWords().row(-1, 0, 1));
        Due.is("2 the most", Due.BAD, new BelievedWords().row(MOST, 0, 1));
        Due.is("2 the least", Due.BAD, new BelievedWords().row(LEAST, 0, 1));
        BelievedWords x = new BelievedWords();
        for (int row = 0; row <= 7; row++) {
            x.row(row, 0, row);
        }
        Due.is("33 all ROWS", 8, x.count(0));
        for (int row = 0; row <= 7; row++) {
            Due.is("2 ROW " + row + " is apart from the others", row, x.drop(row));
        }
    }

    private static void firstAndLastLane() {
        Due.is("2 the first LANE", 1, new BelievedWords().row(0, 0, 1));
        Due.is("2 the last LANE", 1, new BelievedWords().row(0, 2, 1));
        Due.is("2 a LANE behind the last", Due.BAD, new BelievedWords().row(0, 3, 1));
        Due.is("2 a LANE ahead of the first", Due.BAD, new BelievedWords().row(0, -1, 1));
        Due.is("2 a LANE, the most", Due.BAD, new BelievedWords().row(0, MOST, 1));
        Due.is("2 a LANE, the least", Due.BAD, new BelievedWords().row(0, LEAST, 1));
    }

    private static void fewestAndMostItems() {
        for (int lane = 0; lane <= 2; lane++) {
            Due.is("2 no ITEMS", 0, new BelievedWords().row(0, lane, 0));
            Due.is("2 40 ITEMS", 40, new BelievedWords().row(0, lane, 40));
            Due.is("2 41 ITEMS", Due.BAD, new BelievedWords().row(0, lane, 41));
            Due.is("2 ITEMS, the most", Due.BAD, new BelievedWords().row(0, lane, MOST));
            Due.is("2 fewer ITEMS than none", Due.SIZE, new BelievedWords().row(0, lane, -1));
            Due.is("2 ITEMS, the least", Due.SIZE, new BelievedWords().row(0, lane, LEAST));
        }
    }

    private static void badAheadOfSize() {
        Due.is("2 BAD ROW ahead of SIZE", Due.BAD, new BelievedWords().row(8, 0, -1));
        Due.is("2 BAD ROW below 0 ahead of SIZE", Due.BAD, new BelievedWords().row(-1, 0, -1));
        Due.is("2 BAD LANE ahead of SIZE", Due.BAD, new BelievedWords().row(0, 3, -1));
        Due.is("2 BAD LANE below 0 ahead of SIZE", Due.BAD, new BelievedWords().row(0, -1, -1));
    }

    private static void rowsInPlaceOfOthers() {
        BelievedWords x = new BelievedWords();
        x.row(0, 0, 40);
        x.row(0, 2, 3);
        Due.is("2 the LANE in place of another", 70000, x.set(0, 0, 70000));
        Due.is("2 the length in place of a greater", Due.PLACE, x.set(0, 3, 1));
        x.row(0, 2, 5);
        Due.is("2 the length in place of a less", 1, x.set(0, 4, 1));
        Due.is("33 one ROW in place of another", 1, x.count(0));
        x.row(0, 1, 0);
        Due.is("2 none in place of some", 0, x.drop(0));
    }

    private static void refusedRowsLeaveWhatIsThere() {
        BelievedWords x = Due.reader();
        Due.row(x, 0, 8, 16);
        x.row(0, 3, 1);
        x.row(0, 0, 41);
        x.row(0, 0, -1);
        Due.is("2 what is refused leaves the ITEMS", 16, Due.item(x, 0, 1));
        Due.is("2 what is refused leaves the LANE", 70000, x.set(0, 0, 70000));
        Due.is("2 what is refused leaves the length", 2, x.drop(0));
        x.row(0, 0, -1);
        Due.is("2 what is found lays no ROW", Due.IS_NULL, x.drop(0));
    }

    // ---- 3 set

    private static int becomes(int lane, int v) {
        BelievedWords x = new BelievedWords();
        x.row(0, lane, 1);
        return x.set(0, 0, v);
    }

    private static void set() {
        lowestBitsOfBytes();
        lowestBitsOfShorts();
        lowestBitsOfInts();
        firstAndLastPlace();
        rowsOfSet();
        orderOfSet();
    }

    private static void lowestBitsOfBytes() {
        Due.is("3 a byte's greatest", 127, becomes(0, 127));
        Due.is("3 a byte's wrap-around", -128, becomes(0, 128));
        Due.is("3 a byte's least", -128, becomes(0, -128));
        Due.is("3 a byte's wrap-around below", 127, becomes(0, -129));
        Due.is("3 eight bits", -1, becomes(0, 255));
        Due.is("3 nine bits", 0, becomes(0, 256));
        Due.is("3 nine bits and one", 1, becomes(0, 257));
        Due.is("3 the most in a byte", -1, becomes(0, MOST));
        Due.is("3 the least in a byte", 0, becomes(0, LEAST));
        Due.is("3 -1 in a byte", -1, becomes(0, -1));
    }

    private static void lowestBitsOfShorts() {
        Due.is("3 a short's greatest", 32767, becomes(1, 32767));
        Due.is("3 a short's wrap-around", -32768, becomes(1, 32768));
        Due.is("3 a short's least", -32768, becomes(1, -32768));
        Due.is("3 a short's wrap-around below", 32767, becomes(1, -32769));
        Due.is("3 sixteen bits", -1, becomes(1, 65535));
        Due.is("3 seventeen bits", 0, becomes(1, 65536));
        Due.is("3 what a byte has no bits for", 256, becomes(1, 256));
        Due.is("3 the most in a short", -1, becomes(1, MOST));
        Due.is("3 the least in a short", 0, becomes(1, LEAST));
    }

    private static void lowestBitsOfInts() {
        Due.is("3 what a short has no bits for", 65536, becomes(2, 65536));
        Due.is("3 the most in an int", MOST, becomes(2, MOST));
        Due.is("3 the least in an int", LEAST, becomes(2, LEAST));
        Due.is("3 NONE in an int is no refusal", Due.NONE, becomes(2, Due.NONE));
        Due.is("3 BAD in an int is no refusal", Due.BAD, becomes(2, Due.BAD));
        BelievedWords x = new BelievedWords();
        x.row(0, 2, 1);
        x.set(0, 1, 1);
        x.set(0, 0, Due.BAD);
        Due.is("34 an ITEM that is as BAD is none", 0, x.status());
    }

    private static void firstAndLastPlace() {
        for (int n = 1; n <= 40; n += 39) {
            BelievedWords x = new BelievedWords();
            x.row(2, 1, n);
            Due.is("3 the first place of " + n, 9, x.set(2, 0, 9));
            Due.is("3 the last place of " + n, 8, x.set(2, n - 1, 8));
            Due.is("3 behind the last place of " + n, Due.PLACE, x.set(2, n, 7));
            Due.is("3 ahead of the first place of " + n, Due.PLACE, x.set(2, -1, 7));
            Due.is("3 place, the most", Due.PLACE, x.set(2, MOST, 7));
            Due.is("3 place, the least", Due.PLACE, x.set(2, LEAST, 7));
        }
        BelievedWords x = new BelievedWords();
        x.row(2, 1, 0);
        Due.is("3 no place of an empty ROW", Due.PLACE, x.set(2, 0, 7));
    }

    private static void rowsOfSet() {
        BelievedWords x = new BelievedWords();
        x.row(0, 0, 1);
        x.row(7, 0, 1);
        Due.is("3 the first ROW", 5, x.set(0, 0, 5));
        Due.is("3 the last ROW", 5, x.set(7, 0, 5));
        Due.is("3 a ROW behind the last", Due.BAD, x.set(8, 0, 5));
        Due.is("3 a ROW ahead of the first", Due.BAD, x.set(-1, 0, 5));
        Due.is("3 a ROW, the most", Due.BAD, x.set(MOST, 0, 5));
        Due.is("3 a ROW, the least", Due.BAD, x.set(LEAST, 0, 5));
    }

    private static void orderOfSet() {
        Due.is("3 BAD ahead of NULL", Due.BAD, new BelievedWords().set(8, 0, 1));
        Due.is("3 NULL ahead of PLACE", Due.IS_NULL, new BelievedWords().set(7, -1, 1));
        BelievedWords x = Due.reader();
        Due.row(x, 0, 1, 2, 4);
        x.set(0, 3, 32);
        x.set(0, -1, 32);
        Due.is("3 what is found leaves the first ITEM", 1, Due.item(x, 0, 0));
        Due.is("3 what is found leaves the last ITEM", 4, Due.item(x, 0, 2));
        x.set(0, 1, 16);
        Due.is("3 one ITEM becomes", 16, Due.item(x, 0, 1));
        Due.is("3 the ITEM ahead stays", 1, Due.item(x, 0, 0));
        Due.is("3 the ITEM behind stays", 4, Due.item(x, 0, 2));
    }

    // ---- 4 copy

    private static void items(String call, BelievedWords x, int row, int... due) {
        for (int i = 0; i < due.length; i++) {
            Due.is(call + ": ITEM " + i, due[i], Due.item(x, row, i));
        }
    }

    private static void copy() {
        wholeRows();
        asTheyWereAhead();
        toItself();
        ofNone();
        rowsOfCopy();
        findingsOfCopyInOrder();
    }

    private static void wholeRows() {
        for (int lane = 0; lane <= 2; lane++) {
            BelievedWords x = Due.reader();
            x.row(0, lane, 40);
            x.row(7, lane, 40);
            x.set(0, 0, 1);
            x.set(0, 39, 32);
            Due.is("4 40 ITEMS of LANE " + lane, 40, x.copy(0, 0, 7, 0, 40));
            Due.is("4 the first of 40", 1, Due.item(x, 7, 0));
            Due.is("4 the last of 40", 32, Due.item(x, 7, 39));
        }
        BelievedWords x = Due.reader();
        Due.row(x, 0, 1, 2, 4, 8);
        Due.row(x, 1, 16, 16, 16, 16, 16);
        Due.is("4 some within", 2, x.copy(0, 1, 1, 2, 2));
        items("4 some within", x, 1, 16, 16, 2, 4, 16);
        items("4 a stays", x, 0, 1, 2, 4, 8);
        x = new BelievedWords();
        x.row(0, 2, 1);
        x.row(1, 2, 1);
        x.set(0, 0, MOST);
        Due.is("4 one", 1, x.copy(0, 0, 1, 0, 1));
    }

    private static void asTheyWereAhead() {
        BelievedWords x = Due.reader();
        Due.row(x, 0, 1, 2, 4, 8, 16);
        Due.is("4 upwards in one ROW", 4, x.copy(0, 0, 0, 1, 4));
        items("4 upwards in one ROW", x, 0, 1, 1, 2, 4, 8);
        Due.row(x, 0, 1, 2, 4, 8, 16);
        Due.is("4 downwards in one ROW", 4, x.copy(0, 1, 0, 0, 4));
        items("4 downwards in one ROW", x, 0, 2, 4, 8, 16, 16);
        Due.row(x, 0, 1, 2, 4, 8, 16);
        Due.is("4 far upwards in one ROW", 3, x.copy(0, 0, 0, 2, 3));
        items("4 far upwards in one ROW", x, 0, 1, 2, 1, 2, 4);
    }

    private static void toItself() {
        BelievedWords x = Due.reader();
        Due.row(x, 0, 1, 2, 4);
        Due.is("4 to itself", 3, x.copy(0, 0, 0, 0, 3));
        items("4 to itself", x, 0, 1, 2, 4);
    }

    private static void ofNone() {
        BelievedWords x = Due.reader();
        Due.row(x, 0, 1, 2);
        Due.row(x, 1, 4, 8);
        Due.is("4 none", 0, x.copy(0, 0, 1, 0, 0));
        Due.is("4 none at both ends", 0, x.copy(0, 2, 1, 2, 0));
        items("4 none", x, 1, 4, 8);
        x.row(2, 2, 0);
        x.row(3, 2, 0);
        Due.is("4 none of empty ROWS", 0, x.copy(2, 0, 3, 0, 0));
        Due.is("4 none to an empty ROW", 0, x.copy(0, 1, 2, 0, 0));
        Due.is("4 one of an empty ROW", Due.PLACE, x.copy(2, 0, 0, 0, 1));
        Due.is("4 one to an empty ROW", Due.PLACE, x.copy(0, 0, 2, 0, 1));
    }

    private static void rowsOfCopy() {
        BelievedWords x = new BelievedWords();
        x.row(0, 1, 1);
        x.row(7, 1, 1);
        Due.is("4 from the first ROW to the last", 1, x.copy(0, 0, 7, 0, 1));
        Due.is("4 from the last ROW to the first", 1, x.copy(7, 0, 0, 0, 1));
        Due.is("4 a behind the last", Due.BAD, x.copy(8, 0, 0, 0, 1));
        Due.is("4 a ahead of the first", Due.BAD, x.copy(-1, 0, 0, 0, 1));
        Due.is("4 b behind the last", Due.BAD, x.copy(0, 0, 8, 0, 1));
        Due.is("4 b ahead of the first", Due.BAD, x.copy(0, 0, -1, 0, 1));
        Due.is("4 a, the least", Due.BAD, x.copy(LEAST, 0, 0, 0, 1));
        Due.is("4 b, the most", Due.BAD, x.copy(0, 0, MOST, 0, 1));
    }

    private static void findingsOfCopyInOrder() {
        BelievedWords x = new BelievedWords();
        x.row(0, 0, 2);
        x.row(1, 1, 2);
        Due.is("4 BAD a ahead of NULL", Due.BAD, x.copy(8, 0, 5, 0, 1));
        Due.is("4 BAD b ahead of NULL", Due.BAD, x.copy(5, 0, 8, 0, 1));
        Due.is("4 BAD b ahead of PLACE", Due.BAD, x.copy(0, -1, 8, 0, 1));
        Due.is("4 a is missing", Due.IS_NULL, x.copy(5, 0, 0, 0, 1));
        Due.is("4 b is missing", Due.IS_NULL, x.copy(0, 0, 5, 0, 1));
        Due.is("4 both are missing", Due.IS_NULL, x.copy(5, 0, 6, 0, 1));
        Due.is("4 one that is missing to itself", Due.IS_NULL, x.copy(5, 0, 5, 0, 0));
        Due.is("4 NULL ahead of PLACE", Due.IS_NULL, x.copy(0, 9, 5, 0, 1));
        Due.is("4 STORE", Due.STORE, x.copy(0, 0, 1, 0, 1));
        Due.is("4 STORE the other way", Due.STORE, x.copy(1, 0, 0, 0, 1));
        Due.is("4 STORE of none", Due.STORE, x.copy(0, 0, 1, 0, 0));
        Due.is("4 STORE ahead of PLACE", Due.STORE, x.copy(0, -1, 1, 0, 1));
        x.row(5, 2, 2);
        x.drop(5);
        Due.is("4 NULL ahead of STORE", Due.IS_NULL, x.copy(0, 0, 5, 0, 1));
        x.row(2, 2, 2);
        Due.is("4 STORE of bytes and ints", Due.STORE, x.copy(0, 0, 2, 0, 1));
        Due.is("4 STORE of shorts and ints", Due.STORE, x.copy(1, 0, 2, 0, 1));
        x.row(1, 0, 2);
        Due.is("4 of one LANE then", 1, x.copy(0, 0, 1, 0, 1));
    }

    private static void place(String call, int i, int j, int n) {
        BelievedWords x = Due.reader();
        Due.row(x, 0, 1, 2, 4);
        Due.row(x, 1, 8, 16, 32, 8);
        Due.is(call, Due.PLACE, x.copy(0, i, 1, j, n));
        Due.is(call + ": status()", 2, x.status());
        items(call + " leaves a", x, 0, 1, 2, 4);
        items(call + " leaves b", x, 1, 8, 16, 32, 8);
    }

    private static void placesOfCopy() {
        place("4 i below 0", -1, 0, 1);
        place("4 i below 0, of none", -1, 0, 0);
        place("4 j below 0", 0, -1, 1);
        place("4 j below 0, of none", 0, -1, 0);
        place("4 n below 0", 0, 0, -1);
        place("4 n below 0 within", 2, 2, -1);
        place("4 one beyond a's end", 0, 0, 4);
        place("4 one beyond a's end from 1", 1, 0, 3);
        place("4 at a's end", 3, 0, 1);
        place("4 none beyond a's end", 4, 0, 0);
        place("4 one beyond b's end", 0, 2, 3);
        place("4 at b's end", 0, 4, 1);
        place("4 none beyond b's end", 0, 5, 0);
        place("4 i, the most", MOST, 0, 1);
        place("4 i, the most, of the most", MOST, 0, MOST);
        place("4 j, the most", 0, MOST, 1);
        place("4 j, the most, of the most", 0, MOST, MOST);
        place("4 n, the most", 1, 1, MOST);
        place("4 i, the least", LEAST, 0, 1);
        place("4 i and n, the least", LEAST, 0, LEAST);
        place("4 j, the least", 0, LEAST, 1);
        place("4 n, the least", 0, 0, LEAST);
        place("4 n, the least, from 1", 1, 1, LEAST);
    }

    // ---- 5 drop

    private static void drop() {
        BelievedWords x = new BelievedWords();
        x.row(0, 0, 40);
        x.row(7, 2, 0);
        x.row(3, 1, 1);
        Due.is("5 the most ITEMS", 40, x.drop(0));
        Due.is("5 no ITEMS", 0, x.drop(7));
        Due.is("5 the others stay", 1, x.count(0));
        Due.is("5 it is missing from now on: drop", Due.IS_NULL, x.drop(0));
        Due.is("5 it is missing from now on: set", Due.IS_NULL, x.set(0, 0, 1));
        Due.is("5 an empty one is missing, too", Due.IS_NULL, x.drop(7));
        Due.is("5 a ROW behind the last", Due.BAD, x.drop(8));
        Due.is("5 a ROW ahead of the first", Due.BAD, x.drop(-1));
        Due.is("5 a ROW, the most", Due.BAD, x.drop(MOST));
        Due.is("5 a ROW, the least", Due.BAD, x.drop(LEAST));
        Due.is("5 of one ITEM", 1, x.drop(3));
        Due.is("5 none is left", 0, x.count(0));
        Due.is("5 laid again", 2, x.row(0, 1, 2));
        Due.is("5 laid again, it has these", 2, x.drop(0));
    }

    // ---- 34 status

    /** An object whose status() is that number. */
    private static BelievedWords withStatus(int number) {
        BelievedWords x = Due.told("c6,0,1;l;");
        x.row(0, 0, 2);
        x.row(1, 1, 2);
        x.set(1, 0, 12);
        switch (number) {
            case 1: x.drop(7); break;
            case 2: x.set(0, 2, 0); break;
            case 3: x.as(0, 4); break;
            case 4: x.row(2, 0, -1); break;
            case 5: x.copy(0, 0, 1, 0, 0); break;
            default: break;
        }
        return x;
    }

    private static void status() {
        Due.is("34 there was none", 0, new BelievedWords().status());
        for (int number = 0; number <= 5; number++) {
            Due.is("34 of a FINDING", number, withStatus(number).status());
            leftBy(number);
            endedBy(number);
        }
    }

    private static void leftBy(int number) {
        BelievedWords x = withStatus(number);
        x.row(8, 0, 0);
        x.set(8, 0, 0);
        x.copy(0, 0, 8, 0, 0);
        x.drop(8);
        Due.is("34 BAD calls leave it", number, x.status());
        x.said(1, 0, 0, 1, 0);
        x.who(0, 0, 0, 0);
        x.temper(64, 0, 0, 0, 1, 0);
        x.as(1, 0);
        x.as(0, 6);
        Due.is("34 BAD calls of what is FORETOLD, and BAD as(), leave it", number, x.status());
        Due.is("34 who() BAD by an ITEM", Due.BAD, x.who(0, 1, 0, 1));
        Due.is("34 temper() BAD by an ITEM", Due.BAD, x.temper(0, 0, 1, 0, 1, 0));
        Due.is("34 calls that are BAD by an ITEM leave it", number, x.status());
        x = withStatus(number);
        x.feed('c');
        x.feed(256);
        x.court();
        x.fault();
        x.undo();
        x.say(0, 1);
        x.pardon(0);
        x.pardon(0);
        x.strike(0, 0);
        x.stand(0);
        x.kind(0);
        x.kind(5);
        x.ask(0, 0);
        x.trace(0);
        x.count(0);
        x.count(9);
        x.image(0);
        x.restore(0);
        x.restore(1);
        x.ever(0);
        x.drawn(1, 1, 0);
        Due.is("34 calls without a ROW leave it", number, x.status());
        Due.is("34 status() leaves it", number, x.status());
    }

    private static void endedBy(int number) {
        BelievedWords x = withStatus(number);
        x.row(2, 0, 0);
        Due.is("34 none of row()", 0, x.status());
        x = withStatus(number);
        x.set(0, 1, 0);
        Due.is("34 none of set()", 0, x.status());
        x = withStatus(number);
        x.copy(0, 0, 0, 0, 0);
        Due.is("34 none of copy()", 0, x.status());
        x = withStatus(number);
        x.drop(0);
        Due.is("34 none of drop()", 0, x.status());
        x = withStatus(number);
        x.said(0, 0, 0, 1, 0);
        Due.is("34 none of said()", 0, x.status());
        x = withStatus(number);
        x.who(0, 0, 0, 1);
        Due.is("34 none of who()", 0, x.status());
        x = withStatus(number);
        x.temper(0, 0, 0, 0, 1, 0);
        Due.is("34 none of temper()", 0, x.status());
        x = withStatus(number);
        x.as(0, 0);
        Due.is("34 none of as()", 0, x.status());
    }
}
