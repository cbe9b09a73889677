/** Promises 2 to 5, and what status() and count() tell of ROWS. */
public final class RowsTest {
    public static void main(String[] args) {
        making();
        setting();
        copying();
        dropping();
        findings();
        Due.end();
    }

    private static void making() {
        BelievedWords x = new BelievedWords();
        Due.is("row(0,0,0)", 0, x.row(0, 0, 0));
        Due.is("row(7,2,40)", 40, x.row(7, 2, 40));
        Due.is("row(3,1,5)", 5, x.row(3, 1, 5));
        Due.is("count(0)", 3, x.count(0));
        Due.is("row(8,0,1)", Due.BAD, x.row(8, 0, 1));
        Due.is("row(-1,0,1)", Due.BAD, x.row(-1, 0, 1));
        Due.is("row(0,3,1)", Due.BAD, x.row(0, 3, 1));
        Due.is("row(0,-1,1)", Due.BAD, x.row(0, -1, 1));
        Due.is("row(0,0,41)", Due.BAD, x.row(0, 0, 41));
        Due.is("row(0,0,-1)", Due.SIZE, x.row(0, 0, -1));
        Due.is("row(0,0,least)", Due.SIZE, x.row(0, 0, Integer.MIN_VALUE));
        Due.is("row(8,0,-1)", Due.BAD, x.row(8, 0, -1));
        Due.is("row(0,3,-1)", Due.BAD, x.row(0, 3, -1));
        Due.is("set(7,39,9)", 9, x.set(7, 39, 9));
        Due.is("row(7,2,-1)", Due.SIZE, x.row(7, 2, -1));
        Due.is("drop(7) of what a refused row left", 40, x.drop(7));
    }

    private static void setting() {
        BelievedWords x = new BelievedWords();
        x.row(0, 0, 3);
        x.row(1, 1, 3);
        x.row(2, 2, 3);
        Due.is("byte 127", 127, x.set(0, 0, 127));
        Due.is("byte 128", -128, x.set(0, 0, 128));
        Due.is("byte 255", -1, x.set(0, 1, 255));
        Due.is("byte 256", 0, x.set(0, 1, 256));
        Due.is("byte -129", 127, x.set(0, 2, -129));
        Due.is("short 32768", -32768, x.set(1, 0, 32768));
        Due.is("short 65537", 1, x.set(1, 2, 65537));
        Due.is("int least", Integer.MIN_VALUE, x.set(2, 0, Integer.MIN_VALUE));
        Due.is("int most", Integer.MAX_VALUE, x.set(2, 2, Integer.MAX_VALUE));
        Due.is("set(0,3,1)", Due.PLACE, x.set(0, 3, 1));
        Due.is("set(0,-1,1)", Due.PLACE, x.set(0, -1, 1));
        Due.is("set(0,most,1)", Due.PLACE, x.set(0, Integer.MAX_VALUE, 1));
        Due.is("set(0,least,1)", Due.PLACE, x.set(0, Integer.MIN_VALUE, 1));
        Due.is("set(8,0,1)", Due.BAD, x.set(8, 0, 1));
        Due.is("set(-1,0,1)", Due.BAD, x.set(-1, 0, 1));
        Due.is("set(4,9,1)", Due.IS_NULL, x.set(4, 9, 1));
        x.row(5, 0, 0);
        Due.is("set of an empty row", Due.PLACE, x.set(5, 0, 1));
    }

    /** What a ROW holds shows by who(): of a liar who says that fact 0 is, FACTS 1 fit. */
    private static int fits(BelievedWords x, int row, int i) {
        return x.who(0, row, i, 1);
    }

    private static void copying() {
        BelievedWords x = Due.told("c2,0,1;l;");
        Due.row(x, 0, 1, 1, 2, 3);
        Due.row(x, 1, 0, 0, 0, 0);
        Due.is("copy(0,0,1,2,2)", 2, x.copy(0, 0, 1, 2, 2));
        Due.is("who by what was copied", 0b100010, fits(x, 1, 2));
        Due.is("who by what was not", 0b110110, fits(x, 1, 0));
        Due.is("copy within, upwards", 3, x.copy(0, 0, 0, 1, 3));
        Due.is("who(1) behind it", 0b100010, fits(x, 0, 1));
        Due.is("who(2) behind it: says 1, then 2", 0b000000, fits(x, 0, 2));
        Due.is("copy within, downwards", 3, x.copy(0, 1, 0, 0, 3));
        Due.is("who(0) behind that", 0b100010, fits(x, 0, 0));
        Due.is("copy of none at the ends", 0, x.copy(0, 4, 1, 4, 0));
        Due.is("copy beyond a's end", Due.PLACE, x.copy(0, 3, 1, 0, 2));
        Due.is("copy beyond b's end", Due.PLACE, x.copy(0, 0, 1, 3, 2));
        Due.is("copy of none beyond an end", Due.PLACE, x.copy(0, 5, 1, 0, 0));
        Due.is("copy i below 0", Due.PLACE, x.copy(0, -1, 1, 0, 1));
        Due.is("copy j below 0", Due.PLACE, x.copy(0, 0, 1, -1, 1));
        Due.is("copy n below 0", Due.PLACE, x.copy(0, 0, 1, 0, -1));
        Due.is("copy of most", Due.PLACE, x.copy(0, 1, 1, 1, Integer.MAX_VALUE));
        Due.is("copy from most", Due.PLACE, x.copy(0, Integer.MAX_VALUE, 1, 0, 1));
        Due.is("copy(8,..)", Due.BAD, x.copy(8, 0, 1, 0, 1));
        Due.is("copy(..,-1,..)", Due.BAD, x.copy(0, 0, -1, 0, 1));
        Due.is("copy from a missing row", Due.IS_NULL, x.copy(2, 0, 1, 0, 1));
        Due.is("copy to a missing row, n below 0", Due.IS_NULL, x.copy(0, 0, 2, 0, -1));
        x.row(2, 1, 4);
        Due.is("copy between lanes, n below 0", Due.STORE, x.copy(0, 0, 2, 0, -1));
        Due.is("copy between lanes, none", Due.STORE, x.copy(0, 0, 2, 0, 0));
        Due.is("ITEMS of a row made anew are 0", 4, x.row(0, 2, 4));
        Due.is("who by these", 0b110110, fits(x, 0, 0));
    }

    private static void dropping() {
        BelievedWords x = new BelievedWords();
        x.row(6, 1, 17);
        Due.is("drop(6)", 17, x.drop(6));
        Due.is("drop(6) again", Due.IS_NULL, x.drop(6));
        Due.is("count(0)", 0, x.count(0));
        Due.is("set in a dropped row", Due.IS_NULL, x.set(6, 0, 1));
        Due.is("drop(8)", Due.BAD, x.drop(8));
        Due.is("drop(-1)", Due.BAD, x.drop(-1));
        x.row(6, 1, 0);
        Due.is("drop of an empty row", 0, x.drop(6));
    }

    private static void findings() {
        BelievedWords x = Due.told("c2,0,1;l;");
        Due.is("status() at first", 0, x.status());
        x.drop(0);
        Due.is("status() NULL", 1, x.status());
        x.row(9, 0, 0);
        Due.is("status() behind BAD", 1, x.status());
        x.count(0);
        x.stand(0);
        Due.is("status() behind other calls", 1, x.status());
        x.row(0, 0, 4);
        Due.is("status() of none", 0, x.status());
        x.set(0, 4, 0);
        Due.is("status() PLACE", 2, x.status());
        x.as(0, 4);
        Due.is("status() KIND", 3, x.status());
        x.row(0, 0, -3);
        Due.is("status() SIZE", 4, x.status());
        x.row(1, 1, 4);
        x.copy(0, 0, 1, 0, 1);
        Due.is("status() STORE", 5, x.status());
        x.as(0, 1);
        Due.is("status() of as()", 0, x.status());
        x.said(0, 2, 0, 1, 0);
        Due.is("status() of said(), NULL", 1, x.status());
        x.said(0, 0, 0, 1, 0);
        Due.is("status() of said()", 0, x.status());
        x.who(0, 0, 3, 1);
        Due.is("status() of who(), PLACE", 2, x.status());
        x.set(1, 0, 9);
        x.who(0, 0, 3, 1);
        x.who(0, 1, 0, 1);
        Due.is("status() behind who() that is BAD by an ITEM", 2, x.status());
        x.who(0, 0, 0, 1);
        Due.is("status() of who()", 0, x.status());
        x.temper(0, 0, 5, 0, 1, 0);
        Due.is("status() of temper(), NULL", 1, x.status());
        x.temper(0, 0, 1, 0, 1, 0);
        Due.is("status() behind temper() that is BAD by an ITEM", 1, x.status());
        x.temper(0, 0, 0, 0, 1, 0);
        Due.is("status() of temper()", 0, x.status());
        x.as(0, 6);
        Due.is("status() behind as() that is BAD", 0, x.status());
    }
}
