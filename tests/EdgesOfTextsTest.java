/** The boundary cases of THE TAPE, of TEXTS and of FAULTS (terms, part 1), and of promises 6 to 8. One test for each. */
public final class EdgesOfTextsTest {
    private static final String EIGHT = "m0,1;m1,2;m2,3;m3,0;x0,1;x1,2;x2,3;x3,0;";

    public static void main(String[] args) {
        feed();
        tokens();
        numbers();
        law();
        rules();
        people();
        firstOfFaults();
        leastOfOneToken();
        theEnd();
        longestTexts();
        court();
        inPlaceOfTheOneBefore();
        fault();
        Due.end();
    }

    private static void faulty(String sentence, String text, int place, int number) {
        BelievedWords x = new BelievedWords();
        Due.is(sentence + ": " + text, -1000100 - place, Due.tell(x, text));
        Due.is(sentence + ": fault() of " + text, number, x.fault());
        Due.is(sentence + ": no COURT by " + text, Due.STATE, x.stand(0));
    }

    private static BelievedWords sound(String sentence, String text, int people) {
        BelievedWords x = new BelievedWords();
        Due.is(sentence + ": " + text, people, Due.tell(x, text));
        Due.is(sentence + ": fault() of " + text, 0, x.fault());
        return x;
    }

    // ---- 6 feed; THE TAPE has at most 120 bytes

    private static void feed() {
        Due.is("6 the least byte", 1, new BelievedWords().feed(0));
        Due.is("6 the greatest byte", 1, new BelievedWords().feed(255));
        Due.is("6 below the least byte", Due.BAD, new BelievedWords().feed(-1));
        Due.is("6 above the greatest byte", Due.BAD, new BelievedWords().feed(256));
        Due.is("6 the least", Due.BAD, new BelievedWords().feed(Integer.MIN_VALUE));
        Due.is("6 the most", Due.BAD, new BelievedWords().feed(Integer.MAX_VALUE));
        Due.is("6 what would be a letter by its lowest bits", Due.BAD, new BelievedWords().feed('c' + 256));
        Due.is("33 an empty tape", 0, new BelievedWords().count(7));
        BelievedWords x = full();
        Due.is("6 the 121st byte", Due.FULL, x.feed('c'));
        Due.is("6 BAD ahead of FULL", Due.BAD, x.feed(256));
        Due.is("6 BAD below ahead of FULL", Due.BAD, x.feed(-1));
        Due.is("33 a full tape", 120, x.count(7));
        x.court();
        Due.is("6 the tape is empty behind court()", 1, x.feed('c'));
        x = new BelievedWords();
        x.feed('c');
        x.feed(-1);
        x.feed(256);
        Due.is("6 what is refused does not come behind the tape", 2, x.feed('1'));
    }

    private static BelievedWords full() {
        BelievedWords x = new BelievedWords();
        for (int i = 1; i <= 120; i++) {
            Due.is("6 byte " + i, i, x.feed('9'));
        }
        return x;
    }

    // ---- TOKENS: letters a to z, NUMBERS, SIGNS , and ; nothing else

    private static void tokens() {
        for (int letter = 0; letter <= 255; letter++) {
            char c = (char) letter;
            boolean figure = c >= '0' && c <= '9';
            faulty("byte " + letter + " is no law's letter", c == 'c' ? "C" : c + "1,1,1;l;", 0, 1);
            // a figure makes another number of the one ahead of it
            if (!figure && c != ',') {
                faulty("byte " + letter + " is no sign ,", "c1" + c + "1,1;l;", 2, 1);
                faulty("byte " + letter + " is no second sign ,", "c1,1" + c + "1;l;", 4, 1);
                faulty("byte " + letter + " is no sign , of a rule", "c2,1,1;m0" + c + "1;l;", 9, 1);
            }
            if (!figure && c != ';') {
                faulty("byte " + letter + " is no sign ;", "c1,1,1" + c + "l;", 6, 1);
                faulty("byte " + letter + " is no sign ; of a person", "c1,1,1;l" + c, 8, 1);
            }
            if (!figure) {
                faulty("byte " + letter + " is no NUMBER", "c" + c + "1,1;l;", 1, 1);
            }
            if ("lbwqkmx".indexOf(c) < 0) {
                faulty("byte " + letter + " is no rule's, no person's letter", "c1,1,1;" + c + "l;", 7, 1);
                faulty("byte " + letter + " is no person's letter", "c1,1,1;l;" + c + "l;", 9, 1);
            }
        }
        faulty("each letter by itself", "cc1,1,1;l;", 1, 1);
        faulty("each person's letter by itself", "c1,1,1;ll;", 8, 1);
    }

    // ---- NUMBERS (figures, 2 at most)

    private static void numbers() {
        sound("one figure", "c1,1,1;l;", 1);
        sound("two figures", "c5,31,1;l;", 1);
        sound("two figures of which the first is 0", "c06,09,01;l;", 1);
        sound("two figures that are 0", "c1,00,1;l;", 1);
        faulty("three figures", "c100,1,1;l;", 1, 1);
        faulty("three figures that would be as told", "c001,1,1;l;", 1, 1);
        faulty("three figures at the first, not the third", "c1,001,1;l;", 3, 1);
        faulty("three figures of the PRICE", "c1,1,001;l;", 5, 1);
        faulty("three figures of A", "c4,1,1;m000,1;l;", 8, 1);
        faulty("three figures of B", "c4,1,1;m0,001;l;", 10, 1);
        faulty("four figures", "c1,0001,1;l;", 3, 1);
        faulty("ten figures", "c4294967297,1,1;l;", 1, 1);
        faulty("twenty figures", "c1,18446744073709551617,1;l;", 3, 1);
        faulty("three figures where no NUMBER stands", "123", 0, 1);
        faulty("no NUMBER", "c,1,1;l;", 1, 1);
        faulty("a NUMBER below 0", "c1,-1,1;l;", 3, 1);
        BelievedWords x = full();
        Due.is("a run of 120 figures, at its first", -1000100, x.court());
        x = new BelievedWords();
        x.feed('c');
        for (int i = 1; i < 120; i++) {
            x.feed('1');
        }
        Due.is("a run of 119 figures, at its first", -1000101, x.court());
        Due.is("a run of 119 figures", 1, x.fault());
    }

    // ---- law: c FACTS , SO , PRICE ; (1 to 6; bits of FACTS that are SO at first; 1 to 9)

    private static void law() {
        faulty("no FACTS", "c0,0,1;l;", 1, 2);
        Due.is("one FACT", 1, sound("one FACT", "c1,0,1;l;", 1).count(1));
        Due.is("six FACTS", 6, sound("six FACTS", "c6,0,1;l;", 1).count(1));
        faulty("seven FACTS", "c7,0,1;l;", 1, 2);
        faulty("ninety-nine FACTS", "c99,0,1;l;", 1, 2);
        for (int facts = 1; facts <= 6; facts++) {
            int all = (1 << facts) - 1;
            String text = "c" + facts + "," + all + ",1;l;";
            Due.is("all of " + facts + " are SO at first", all, sound("all SO", text, 1).stand(0));
            text = "c" + facts + ",0,1;l;";
            Due.is("none of " + facts + " is SO at first", 0, sound("none SO", text, 1).stand(0));
            faulty("a bit of no FACT", "c" + facts + "," + (all + 1) + ",1;l;", 3, 2);
        }
        faulty("the greatest NUMBER of bits", "c6,99,1;l;", 3, 2);
        faulty("no PRICE", "c1,0,0;l;", 5, 2);
        faulty("no PRICE by two figures", "c1,0,00;l;", 5, 2);
        Due.is("PRICE 1", 1, sound("PRICE 1", "c1,0,1;l;", 1).count(4));
        Due.is("PRICE 9", 9, sound("PRICE 9", "c1,0,9;l;", 1).count(4));
        faulty("PRICE 10", "c1,0,10;l;", 5, 2);
        faulty("a second law", "c1,0,1;c1,0,1;l;", 7, 1);
        faulty("people ahead of the law", "l;c1,0,1;", 0, 1);
    }

    // ---- rule: m A , B ; x A , B ; 8 at most, both sorts together

    private static void rules() {
        Due.is("no rule", 0, sound("no rule", "c1,0,1;l;", 1).count(2));
        Due.is("one rule", 1, sound("one rule", "c2,0,1;m0,1;l;", 1).count(2));
        Due.is("eight rules", 8, sound("eight rules", "c4,0,1;" + EIGHT + "l;", 1).count(2));
        Due.is("eight of one sort", 8,
            sound("eight of one sort", "c6,0,1;x0,1;x1,0;x2,3;x3,2;x4,5;x5,4;x0,2;x0,3;l;", 1).count(2));
        faulty("a ninth rule", "c4,0,1;" + EIGHT + "m0,2;l;", 47, 3);
        faulty("a ninth rule of the other sort", "c4,0,1;" + EIGHT + "x0,2;l;", 47, 3);
        faulty("a ninth of one sort", "c6,0,1;x0,1;x1,0;x2,3;x3,2;x4,5;x5,4;x0,2;x0,3;x0,4;l;", 47, 3);
        for (String sort : new String[] {"m", "x"}) {
            rulesOf(sort);
        }
        sound("of A, B one of each sort", "c2,0,1;m0,1;x0,1;l;", 1);
        sound("of A, B and of B, A one of each sort", "c2,0,1;m0,1;m1,0;x0,1;x1,0;l;", 1);
        faulty("rules behind people", "c2,0,1;l;m0,1;", 9, 1);
        faulty("rules alone", "c2,0,1;m0,1;", 12, 1);
    }

    private static void rulesOf(String sort) {
        String law = "c3,0,1;";
        Due.is("A is the first FACT", 0, sound("A", law + sort + "0,2;l;", 1).rule(0, 1));
        Due.is("B is the last FACT", 2, sound("B", law + sort + "0,2;l;", 1).rule(0, 2));
        Due.is("A is the last FACT", 2, sound("A", law + sort + "2,0;l;", 1).rule(0, 1));
        Due.is("B is the first FACT", 0, sound("B", law + sort + "2,0;l;", 1).rule(0, 2));
        faulty("A is no FACT", law + sort + "3,0;l;", 8, 2);
        faulty("A is no FACT, the greatest", law + sort + "99,0;l;", 8, 2);
        faulty("B is no FACT", law + sort + "0,3;l;", 10, 2);
        faulty("B is no FACT, the greatest", law + sort + "0,99;l;", 10, 2);
        faulty("A and B are alike", law + sort + "1,1;l;", 10, 2);
        faulty("the only FACT can not be two", "c1,0,1;" + sort + "0,0;l;", 10, 2);
        faulty("two of one sort of the same A, B", law + sort + "0,1;" + sort + "0,1;l;", 15, 2);
        faulty("of the same by other figures", law + sort + "0,1;" + sort + "00,01;l;", 16, 2);
        faulty("of the same with others between", law + sort + "0,1;m1,2;x1,2;" + sort + "0,1;l;", 25, 2);
        sound("of A, B and of B, A are two", law + sort + "0,1;" + sort + "1,0;l;", 1);
        sound("of one A two B", law + sort + "0,1;" + sort + "0,2;l;", 1);
        sound("of one B two A", law + sort + "0,1;" + sort + "2,1;l;", 1);
        faulty("no A", law + sort + ",1;l;", 8, 1);
        faulty("no B", law + sort + "0,;l;", 10, 1);
        faulty("no sign between", law + sort + "0;l;", 9, 1);
        faulty("a third NUMBER", law + sort + "0,1,2;l;", 11, 1);
    }

    // ---- person: SORT ; 5 at most

    private static void people() {
        String[] sorts = {"l", "b", "w", "q", "k"};
        for (int i = 0; i < sorts.length; i++) {
            BelievedWords x = sound("one person", "c1,0,1;" + sorts[i] + ";", 1);
            Due.is("29 KIND of " + sorts[i], i + 1, x.kind(0));
        }
        faulty("no person", "c1,0,1;", 7, 1);
        sound("four people", "c1,0,1;l;b;w;q;", 4);
        sound("five people", "c1,0,1;l;b;w;q;k;", 5);
        sound("five of one sort", "c1,0,1;k;k;k;k;k;", 5);
        for (String sort : sorts) {
            faulty("a sixth person", "c1,0,1;l;b;w;q;k;" + sort + ";", 17, 3);
        }
        faulty("a sixth person's letter alone", "c1,0,1;l;b;w;q;k;l", 17, 3);
        faulty("a person without a sign", "c1,0,1;l", 8, 1);
        faulty("a NUMBER of a person", "c1,0,1;l1;", 8, 1);
        faulty("two signs", "c1,0,1;l;;", 9, 1);
    }

    // ---- FAULTS, the first TOKEN that has one (its first byte)

    private static void firstOfFaults() {
        faulty("FACTS ahead of SO", "c7,99,10;", 1, 2);
        faulty("SO ahead of PRICE", "c1,2,10;", 3, 2);
        faulty("a NUMBER ahead of what cannot stand", "c7;", 1, 2);
        faulty("what cannot stand ahead of a NUMBER", "c1;7", 2, 1);
        faulty("A ahead of B", "c2,0,1;m2,2;", 8, 2);
        faulty("a rule ahead of a person", "c2,0,1;m0,0;p;", 10, 2);
        faulty("a ninth rule ahead of what is in it", "c4,0,1;" + EIGHT + "m9,9;l;", 47, 3);
        faulty("a ninth rule ahead of the end", "c4,0,1;" + EIGHT + "x", 47, 3);
        faulty("a rule of old ahead of a ninth", "c4,0,1;m0,1;m1,2;m2,3;m3,0;x0,1;x1,2;x2,3;x0,1;m0,2;", 45, 2);
        faulty("a sixth person ahead of what is behind", "c1,0,1;l;b;w;q;k;l,999", 17, 3);
        faulty("a NUMBER of two figures, at its first", "c1,64,1;l;", 3, 2);
    }

    // ---- of one TOKEN the least

    private static void leastOfOneToken() {
        faulty("a NUMBER too great where none stands", "c1,0,1;99", 7, 1);
        faulty("a NUMBER too great in place of a sign", "c1,0,1;l99", 8, 1);
        faulty("a rule where no rule stands, eight told", "c4,0,1;" + EIGHT + "l;m0,2;", 49, 1);
        faulty("a rule behind five people", "c4,0,1;l;b;w;q;k;m0,1;", 17, 1);
        faulty("a ninth rule behind five people", "c4,0,1;" + EIGHT + "l;b;w;q;k;x0,2;", 57, 1);
        faulty("what is no person behind five people", "c1,0,1;l;b;w;q;k;c", 17, 1);
        faulty("a NUMBER behind five people", "c1,0,1;l;b;w;q;k;1", 17, 1);
        faulty("what is none behind five people", "c1,0,1;l;b;w;q;k; ", 17, 1);
        faulty("what is no rule behind eight", "c4,0,1;" + EIGHT + "y", 47, 1);
        faulty("a person's letter where a sign stands, five told", "c1,0,1;l;b;w;q;kl;", 16, 1);
    }

    // ---- the end: how many bytes there are

    private static void theEnd() {
        String text = "c2,03,1;m0,1;x01,0;l;k;";
        for (int n = 0; n < text.length(); n++) {
            // behind its first person the text could end
            if (n == 21) {
                sound("the end behind a person", text.substring(0, n), 1);
            } else {
                faulty("the end", text.substring(0, n), n, 1);
            }
        }
        sound("no end too early", text, 2);
        faulty("a NUMBER too great ahead of the end", "c9", 1, 2);
        faulty("the first half of a NUMBER that is as told", "c1,1", 4, 1);
        faulty("the end behind eight rules", "c4,0,1;" + EIGHT, 47, 1);
        faulty("the end ahead of the fifth's sign", "c1,0,1;l;b;w;q;k", 16, 1);
    }

    private static void longestTexts() {
        String text = "c06,63,09;m00,01;m01,02;m02,03;m03,04;x04,05;x05,04;x03,02;x01,00;l;b;w;q;k;";
        BelievedWords x = sound("the longest text", text, 5);
        Due.is("the longest text's last rule", 1, x.rule(7, 1));
        Due.is("the longest text's last person", 5, x.kind(4));
        faulty("the longest but its last byte", text.substring(0, text.length() - 1), text.length() - 1, 1);
        faulty("a full tape", text + "l".repeat(120 - text.length()), 76, 3);
    }

    // ---- 7 court

    private static void court() {
        Due.is("7 an empty tape", -1000100, new BelievedWords().court());
        BelievedWords x = new BelievedWords();
        x.court();
        Due.is("7 an empty tape has a FAULT", 1, x.fault());
        Due.tell(x, "c1,0,1;l;");
        Due.is("7 the tape is empty then", 0, x.count(7));
        Due.is("7 an empty tape is no COURT again", -1000100, x.court());
        Due.is("7 the COURT of old stays", 1, x.count(3));
        Due.tell(x, "c1,0,2");
        Due.is("7 the tape is empty behind a FAULT", 0, x.count(7));
        Due.is("7 a text fed behind a FAULT begins anew", 2, Due.tell(x, "c1,0,2;b;b;"));
    }

    private static void inPlaceOfTheOneBefore() {
        String text = "c4,9,2;m0,1;x2,3;l;k;";
        BelievedWords x = Due.told(text);
        Due.row(x, 0, 1, 2);
        x.say(0, 5);
        x.say(1, 3);
        x.strike(0, 1);
        x.image(0);
        x.ask(0, 1);
        Due.is("ahead: a CELL", 1, x.cell(0));
        Due.is("ahead: COST", 2, x.stand(2));
        Due.tell(x, text);
        Due.is("7 what is SO at first is not looked at by RULES", 9, x.stand(0));
        Due.is("7 nothing was SAID: FACTS", 0, x.stand(1));
        Due.is("7 nothing was SAID: how much", 0, x.stand(3));
        Due.is("7 nobody was in a CELL", 0, x.cell(0));
        Due.is("7 COST 0", 0, x.stand(2));
        Due.is("7 no ACT can be undone", 0, x.count(6));
        Due.is("7 no ACT can be undone, so STATE", Due.STATE, x.undo());
        Due.is("7 no RULE is struck", 0, x.rule(0, 3));
        Due.is("7 nothing was SAID: to a child", 8, x.makes(1, 0));
        Due.is("7 ROWS stay", 2, x.drop(0));
        Due.is("7 THE TRACE stays", 21, x.trace(0));
        Due.is("7 IMAGES stay", 1, x.restore(0));
        Due.is("7 IMAGES stay as they were", 1, x.rule(0, 3));
        Due.is("7 fewer FACTS", 1, Due.tell(x, "c1,0,1;q;"));
        Due.is("7 fewer FACTS: no SAYING 2", Due.BAD, x.say(0, 2));
        Due.is("7 fewer people: nobody 1", Due.BAD, x.say(1, 0));
        Due.is("7 fewer RULES: none", Due.BAD, x.rule(0, 0));
        Due.is("7 both SO that can not be, at first", 12, Due.tell(x, "c4,12,2;x2,3;l;") == 1 ? x.stand(0) : 0);
    }

    // ---- 8 fault

    private static void fault() {
        BelievedWords x = new BelievedWords();
        Due.is("8 before one", 0, x.fault());
        Due.tell(x, "c1,0,1;l;");
        Due.is("8 before one, a COURT was read", 0, x.fault());
        Due.tell(x, "c1,0,1;l;l;l;l;l;l;");
        Due.is("8 the latest is 3", 3, x.fault());
        Due.tell(x, "c0");
        Due.is("8 the latest is 2", 2, x.fault());
        Due.tell(x, "c1,0,1;l;");
        Due.is("8 it stays behind a sound text", 2, x.fault());
        x.feed(256);
        x.say(9, 9);
        x.row(8, 0, 0);
        Due.is("8 it stays behind what is refused", 2, x.fault());
        x.court();
        Due.is("8 the latest is 1", 1, x.fault());
    }
}
