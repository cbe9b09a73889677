import java.util.ArrayList;
import java.util.HashSet;
import java.util.List;
import java.util.Map;
import java.util.Set;

/** Many courts, each told, acted in and foretold: promises 10 to 28 against the Model. */
public final class ModelTest {
    private static long seed = 20261118;

    public static void main(String[] args) {
        for (int run = 0; run < 400; run++) {
            oneCourt(run);
        }
        Due.end();
    }

    private static int pick(int n) {
        seed = seed * 6364136223846793005L + 1442695040888963407L;
        return (int) ((seed >>> 33) % n);
    }

    private static void oneCourt(int run) {
        int facts = 1 + pick(run % 10 == 0 ? 6 : 4);
        int atFirst = pick(1 << facts);
        int price = 1 + pick(9);
        StringBuilder people = new StringBuilder();
        for (int i = 1 + pick(5); i > 0; i--) {
            people.append("lbwqk".charAt(pick(5)));
        }
        Model m = new Model(facts, atFirst, price, people.toString());
        StringBuilder text = new StringBuilder("c" + facts + "," + atFirst + "," + price + ";");
        tellRules(m, text);
        for (int i = 0; i < people.length(); i++) {
            text.append(people.charAt(i)).append(';');
        }
        BelievedWords x = new BelievedWords();
        String name = text.toString();
        Due.is(name, people.length(), Due.tell(x, name));
        foretell(name, x, m);
        for (int round = 0; round < 2; round++) {
            act(name, x, m, round);
            foretell(name + " round " + round, x, m);
        }
    }

    private static void tellRules(Model m, StringBuilder text) {
        Set<String> told = new HashSet<>();
        for (int i = pick(9); i > 0 && m.facts > 1; i--) {
            boolean makes = pick(2) == 0;
            int a = pick(m.facts);
            int b = pick(m.facts);
            String rule = (makes ? "m" : "x") + a + "," + b + ";";
            if (a != b && told.add(rule)) {
                text.append(rule);
                m.rules.add(new Model.Rule(makes, a, b));
            }
        }
    }

    /** Some ACTS, of which the last are undone again. */
    private static void act(String name, BelievedWords x, Model m, int round) {
        int cost = x.stand(2);
        for (int i = pick(6); i >= 0; i--) {
            cost = oneAct(name, x, m, cost);
        }
        int so = x.stand(0);
        int said = x.stand(1);
        int sayings = x.stand(3);
        int cell = x.cell(0);
        List<Integer> struck = struck(x);
        x.image(round);
        int more = 0;
        for (int i = 1 + pick(5); i > 0; i--) {
            x.say(pick(m.people.length()), pick(2 * m.facts));
            more += x.pardon(pick(m.facts)) == Due.STATE ? 1 : 2;
            if (!m.rules.isEmpty()) {
                more += x.strike(pick(m.rules.size()), pick(2)) == Due.STATE ? 0 : 1;
            }
        }
        boolean restored = pick(2) == 0;
        if (restored) {
            Due.is(name + " restore", 1, x.restore(round));
            Due.is(name + " count(6)", 0, x.count(6));
        }
        for (int i = 1; i <= more && !restored; i++) {
            Due.is(name + " undo", x.count(6) - 1, x.undo());
        }
        Due.is(name + " stand(0)", so, x.stand(0));
        Due.is(name + " stand(1)", said, x.stand(1));
        Due.is(name + " stand(2)", cost, x.stand(2));
        Due.is(name + " stand(3)", sayings, x.stand(3));
        Due.is(name + " cell(0)", cell, x.cell(0));
        Due.is(name + " struck", 1, struck.equals(struck(x)) ? 1 : 0);
    }

    private static List<Integer> struck(BelievedWords x) {
        List<Integer> struck = new ArrayList<>();
        for (int r = 0; r < x.count(2); r++) {
            struck.add(x.rule(r, 3));
        }
        return struck;
    }

    private static int oneAct(String name, BelievedWords x, Model m, int cost) {
        int dearer = cost;
        int what = pick(10);
        if (what == 0 && !m.rules.isEmpty()) {
            int r = pick(m.rules.size());
            m.rules.get(r).struck = !m.rules.get(r).struck;
            int struck = 0;
            for (Model.Rule rule : m.rules) {
                struck += rule.struck ? 1 : 0;
            }
            Due.is(name + " strike", struck, x.strike(r, m.rules.get(r).struck ? 1 : 0));
        } else if (what == 1) {
            int fact = pick(m.facts);
            Set<Integer> said = new HashSet<>(m.now.said);
            boolean was = said.remove(fact);
            Due.is(name + " pardon", was ? Model.bits(said) : Due.STATE, x.pardon(fact));
            m.now = new Model.State(m.now.so, said);
        } else {
            int person = pick(m.people.length());
            int saying = pick(2 * m.facts);
            int cell = x.cell(person);
            boolean carriedOut = m.by(m.people.charAt(person), saying, m.now) != null;
            Model.State next = m.behind(m.people.charAt(person), saying, m.now);
            dearer += m.price * m.changes(m.now, next);
            m.now = next;
            int due = carriedOut ? Model.bits(next.so) : Due.NONE;
            Due.is(name + " say(" + person + "," + saying + ")", due, x.say(person, saying));
            Due.is(name + " cell", cell + (carriedOut ? 0 : 1), x.cell(person));
        }
        Due.is(name + " stand(0)", Model.bits(m.now.so), x.stand(0));
        Due.is(name + " stand(1)", Model.bits(m.now.said), x.stand(1));
        Due.is(name + " stand(2)", dearer, x.stand(2));
        return dearer;
    }

    private static void foretell(String name, BelievedWords x, Model m) {
        Map<Model.State, Map<Integer, Model.State>> graph = m.graph();
        int[] ever = m.ever(graph);
        Due.is(name + " ever(0)", ever[0], x.ever(0));
        Due.is(name + " ever(1)", ever[1], x.ever(1));
        for (int i = 0; i < (graph.size() > 200 ? 1 : 5); i++) {
            goal(name, x, m, graph);
        }
        for (int person = 0; person < m.people.length(); person++) {
            Due.is(name + " idle(" + person + ")", m.idle(person), x.idle(person));
            for (int saying = 0; saying < 2 * m.facts; saying++) {
                Due.is(name + " makes", m.makes(person, saying), x.makes(person, saying));
            }
        }
        for (int i = 0; i < 4; i++) {
            giveUpAndOrder(name, x, m);
            draw(name, x, m);
            rows(name, x, m);
        }
    }

    private static void goal(String name, BelievedWords x, Model m, Map<Model.State, Map<Integer, Model.State>> graph) {
        int so = pick(1 << m.facts) & pick(1 << m.facts);
        int not = pick(1 << m.facts) & pick(1 << m.facts) & ~so;
        String goal = name + " so " + so + " not " + not;
        int[] few = m.least(graph, so, not, false);
        Due.is(goal + " shortest", few[0], x.shortest(so, not, 0));
        Due.is(goal + " shortest, first", few[1], x.shortest(so, not, 1));
        int[] cheap = m.least(graph, so, not, true);
        Due.is(goal + " cheapest", cheap[0], x.cheapest(so, not, 0));
        Due.is(goal + " cheapest, first", cheap[1], x.cheapest(so, not, 1));
    }

    private static void giveUpAndOrder(String name, BelievedWords x, Model m) {
        int told = pick(1 << m.facts);
        int[] left = m.giveUp(told);
        Due.is(name + " giveUp(" + told + ",0)", left[0], x.giveUp(told, 0));
        Due.is(name + " giveUp(" + told + ",1)", left[1], x.giveUp(told, 1));
        List<Integer> order = m.order(new ArrayList<>(), Model.set(told));
        for (int k = 0; k <= m.facts; k++) {
            int due = order == null || k >= order.size() ? Due.NONE : order.get(k);
            Due.is(name + " order(" + told + "," + k + ")", due, x.order(told, k));
        }
    }

    private static void draw(String name, BelievedWords x, Model m) {
        int n = pick(61);
        int start = 1 + pick(999999);
        int[] drawn = m.drawn(n, start);
        Due.is(name + " drawn(" + n + "," + start + ",0)", drawn[0], x.drawn(n, start, 0));
        Due.is(name + " drawn(" + n + "," + start + ",1)", drawn[1], x.drawn(n, start, 1));
    }

    private static void rows(String name, BelievedWords x, Model m) {
        int person = pick(m.people.length());
        char kind = m.people.charAt(person);
        int[] behind = new int[6];
        int[] told = new int[12];
        Model.State s = m.now;
        Model.State t = m.now;
        char other = "lbwqk".charAt(pick(5));
        for (int i = 0; i < 6; i++) {
            s = m.behind(kind, pick(2 * m.facts), s);
            behind[i] = Model.bits(s.so);
            told[2 * i] = pick(2 * m.facts);
            t = m.behind(other, told[2 * i], t);
            told[2 * i + 1] = Model.bits(t.so);
        }
        int n = 1 + pick(4);
        Due.row(x, 0, behind);
        int[] said = m.said(kind, m.now, Model.span(behind, 0, n), 0);
        Due.is(name + " said, " + n, said[0], x.said(person, 0, 0, n, 0));
        Due.is(name + " said, first, " + n, said[0] == 0 ? Due.NONE : said[1], x.said(person, 0, 0, n, 1));
        int many = 1 + pick(6);
        Due.row(x, 1, told);
        Due.is(name + " who, " + many, m.who(Model.span(told, 0, 2 * many)), x.who(person, 1, 0, many));
        int[] plan = new int[12];
        for (int i = 0; i < 6; i++) {
            plan[2 * i] = pick(m.people.length());
            plan[2 * i + 1] = pick(2 * m.facts);
        }
        int p = pick(11);
        int facts = pick(1 << m.facts) & pick(1 << m.facts);
        Due.row(x, 2, plan);
        long[] likely = m.temper(facts, p, Model.span(plan, 12 - 2 * many, 2 * many));
        Due.is(name + " temper above", likely[0], x.temper(facts, p, 2, 12 - 2 * many, many, 0));
        Due.is(name + " temper below", likely[1], x.temper(facts, p, 2, 12 - 2 * many, many, 1));
    }
}
