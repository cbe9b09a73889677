/** A short day at court: a text is told, sayings are tried, said and undone, and more is foretold. */
public final class Example {
    public static void main(String[] args) {
        BelievedWords x = new BelievedWords();

        // 3 facts, of which fact 0 is so (bits 1), each change costs 2; fact 0 makes fact 1 so;
        // facts 1 and 2 can not both be so; person 0 is a liar, person 1 a child
        tell(x, "c3,1,2;m0,1;x1,2;l;k;");
        show("court()", x.court());
        show("count(3)", x.count(3));

        // a saying is 2 times the fact, and 1 more if it says that the fact is so
        show("makes(0, 3)", x.makes(0, 3));
        show("say(0, 3)", x.say(0, 3));
        show("say(1, 5)", x.say(1, 5));
        show("cell(1)", x.cell(1));
        show("stand(1)", x.stand(1));
        show("undo()", x.undo());
        show("cell(1)", x.cell(1));

        // facts are told as bits: 4 is fact 2 alone
        show("shortest(4, 0, 0)", x.shortest(4, 0, 0));
        show("shortest(4, 0, 1)", x.shortest(4, 0, 1));
        show("cheapest(4, 0, 0)", x.cheapest(4, 0, 0));
        show("ever(1)", x.ever(1));
        show("giveUp(5, 1)", x.giveUp(5, 1));
        show("order(3, 0)", x.order(3, 0));

        // a row tells sayings with what is so behind each: by which kinds is it so?
        show("row(0, 2, 4)", x.row(0, 2, 4));
        x.set(0, 0, 0);
        x.set(0, 1, 2);
        x.set(0, 2, 2);
        x.set(0, 3, 0);
        show("who(0, 0, 0, 2)", x.who(0, 0, 0, 2));
        show("set(0, 4, 1)", x.set(0, 4, 1));
        show("status()", x.status());

        // the body of an ask, told for the nearest kind, leaves its number in the trace
        show("ask(0, 0)", x.ask(0, 0));
        show("trace(0)", x.trace(0));

        // a text that can not be read: the fault is at byte 3, by the number 2
        tell(x, "c3,8,1;l;");
        show("court()", x.court());
        show("fault()", x.fault());
    }

    private static void tell(BelievedWords x, String text) {
        for (int i = 0; i < text.length(); i++) {
            x.feed(text.charAt(i));
        }
    }

    private static void show(String call, long answer) {
        System.out.println(call + " = " + answer);
    }
}
