/** Many texts, most of them with a FAULT or two, told to the class and to TextModel: promises 7, 8, 14, 29, 33. */
public final class TextModelTest {
    private static final String SIGNS = "cmxlbwqk,,;;;0123456789 Aaz`{/:\u0000\u00ff";
    private static long seed = 20261119;
    private static int sound = 0;
    private static final int[] faults = new int[4];

    public static void main(String[] args) {
        for (int run = 0; run < 20000; run++) {
            String text = text();
            for (int i = pick(3); i > 0; i--) {
                text = spoiled(text);
            }
            compare(text.length() > 120 ? text.substring(0, 120) : text);
        }
        Due.is("many texts are sound, and many have each FAULT", 1,
            Math.min(Math.min(sound, faults[1]), Math.min(faults[2], faults[3])) > 300 ? 1 : 0);
        Due.end();
    }

    private static int pick(int n) {
        seed = seed * 6364136223846793005L + 1442695040888963407L;
        return (int) ((seed >>> 33) % n);
    }

    private static String number(int n) {
        return pick(9) == 0 && n < 10 ? "0" + n : pick(150) == 0 ? "00" + n : "" + n;
    }

    private static String text() {
        int facts = 1 + pick(pick(20) == 0 ? 7 : 6);
        StringBuilder s = new StringBuilder("c" + number(facts));
        s.append(',').append(number(pick((1 << facts) + (pick(9) == 0 ? 2 : 0))));
        s.append(',').append(number(pick(20) == 0 ? pick(12) : 1 + pick(9))).append(';');
        boolean[] told = new boolean[200];
        for (int i = pick(10); i > 0; i--) {
            int a = pick(facts);
            int b = pick(facts);
            int sort = pick(2);
            // most of the rules that are no rules are left out, or few texts would be sound
            if ((a == b || told[sort * 100 + a * 10 + b]) && pick(30) > 0) {
                continue;
            }
            told[sort * 100 + a * 10 + b] = true;
            s.append(sort == 0 ? 'm' : 'x').append(number(a)).append(',').append(number(b)).append(';');
        }
        for (int i = pick(8) == 0 ? pick(8) : 1 + pick(5); i > 0; i--) {
            s.append("lbwqk".charAt(pick(5))).append(';');
        }
        return s.toString();
    }

    private static String spoiled(String text) {
        int at = pick(text.length() + 1);
        String sign = "" + SIGNS.charAt(pick(SIGNS.length()));
        String rest = text.substring(at);
        switch (pick(4)) {
            case 0: return text.substring(0, at) + sign + rest;
            case 1: return text.substring(0, at) + (rest.isEmpty() ? "" : sign + rest.substring(1));
            case 2: return text.substring(0, at) + (rest.isEmpty() ? "" : rest.substring(1));
            default: return pick(4) == 0 ? text.substring(0, at) : text;
        }
    }

    private static void compare(String text) {
        TextModel m = new TextModel(text);
        BelievedWords x = new BelievedWords();
        int answer = Due.tell(x, text);
        Due.is("fault() of " + text, m.fault, x.fault());
        faults[m.fault]++;
        if (m.fault != 0) {
            Due.is("court() of " + text, -1000100 - m.place, answer);
            Due.is("count(3) behind " + text, 0, x.count(3));
            return;
        }
        sound++;
        Due.is("court() of " + text, m.people.length(), answer);
        Due.is("count(1) of " + text, m.facts, x.count(1));
        Due.is("stand(0) of " + text, m.so, x.stand(0));
        Due.is("count(4) of " + text, m.price, x.count(4));
        Due.is("count(2) of " + text, m.rules.size(), x.count(2));
        for (int r = 0; r < m.rules.size(); r++) {
            String rule = (x.rule(r, 0) == 0 ? "m" : "x") + x.rule(r, 1) + x.rule(r, 2);
            Due.is("rule " + r + " of " + text + " is " + rule, 1, rule.equals(m.rules.get(r)) ? 1 : 0);
        }
        for (int person = 0; person < m.people.length(); person++) {
            Due.is("kind(" + person + ") of " + text, " lbwqk".indexOf(m.people.charAt(person)), x.kind(person));
        }
    }
}
