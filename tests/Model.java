import java.math.BigInteger;
import java.util.ArrayList;
import java.util.Arrays;
import java.util.HashMap;
import java.util.HashSet;
import java.util.List;
import java.util.Map;
import java.util.Set;

/**
 * What the document says, written once more in the plainest way, with sets of facts and without any
 * regard to time: ModelTest holds the class against it.
 */
final class Model {
    static final class Rule {
        final boolean makes;
        final int a;
        final int b;
        boolean struck;

        Rule(boolean makes, int a, int b) {
            this.makes = makes;
            this.a = a;
            this.b = b;
        }
    }

    /** What is SO, and of what anything was SAID. */
    static final class State {
        final Set<Integer> so;
        final Set<Integer> said;

        State(Set<Integer> so, Set<Integer> said) {
            this.so = so;
            this.said = said;
        }

        @Override
        public boolean equals(Object o) {
            return o instanceof State && ((State) o).so.equals(so) && ((State) o).said.equals(said);
        }

        @Override
        public int hashCode() {
            return so.hashCode() * 1000 + said.hashCode();
        }
    }

    final int facts;
    final int price;
    final List<Rule> rules = new ArrayList<>();
    final String people;
    State now;

    Model(int facts, int atFirst, int price, String people) {
        this.facts = facts;
        this.price = price;
        this.people = people;
        now = new State(set(atFirst), new HashSet<>());
    }

    static Set<Integer> set(int bits) {
        Set<Integer> set = new HashSet<>();
        for (int i = 0; i < 6; i++) {
            if ((bits & 1 << i) != 0) {
                set.add(i);
            }
        }
        return set;
    }

    static int bits(Set<Integer> set) {
        int bits = 0;
        for (int i : set) {
            bits |= 1 << i;
        }
        return bits;
    }

    /** null: these and what they make can not all be. */
    Set<Integer> settled(Set<Integer> so) {
        Set<Integer> all = new HashSet<>(so);
        boolean more = true;
        while (more) {
            more = false;
            for (Rule r : rules) {
                if (r.makes && !r.struck && all.contains(r.a)) {
                    more |= all.add(r.b);
                }
            }
        }
        for (Rule r : rules) {
            if (!r.makes && !r.struck && all.contains(r.a) && all.contains(r.b)) {
                return null;
            }
        }
        return all;
    }

    /** What is SO by a SAYING; null: not CARRIED OUT. */
    Set<Integer> by(char kind, int saying, State s) {
        Set<Integer> so = new HashSet<>(s.so);
        int fact = saying / 2;
        boolean is = saying % 2 == 1;
        if (kind == 'l' || kind == 'k' && !s.said.contains(fact)) {
            put(so, fact, is);
        } else if (kind == 'b') {
            put(so, fact, is);
            put(so, fact == facts - 1 ? 0 : fact + 1, is);
        } else if (kind == 'w') {
            put(so, fact, !is);
        }
        return settled(so);
    }

    private static void put(Set<Integer> so, int fact, boolean is) {
        if (is) {
            so.add(fact);
        } else {
            so.remove(fact);
        }
    }

    /** null: not CARRIED OUT. */
    State next(char kind, int saying, State s) {
        Set<Integer> so = by(kind, saying, s);
        return so == null ? null : new State(so, with(s.said, saying / 2));
    }

    State behind(char kind, int saying, State s) {
        Set<Integer> so = by(kind, saying, s);
        return new State(so == null ? s.so : so, with(s.said, saying / 2));
    }

    private static Set<Integer> with(Set<Integer> set, int one) {
        Set<Integer> more = new HashSet<>(set);
        more.add(one);
        return more;
    }

    int changes(State a, State b) {
        return Integer.bitCount(bits(a.so) ^ bits(b.so));
    }

    int makes(int person, int saying) {
        Set<Integer> so = by(people.charAt(person), saying, now);
        return so == null ? Due.NONE : bits(so);
    }

    private static boolean meets(State s, int so, int not) {
        return s.so.containsAll(set(so)) && (bits(s.so) & not) == 0;
    }

    /** All states that come from one, each with the states that one SAYING leads to. */
    Map<State, Map<Integer, State>> graph() {
        Map<State, Map<Integer, State>> graph = new HashMap<>();
        List<State> open = new ArrayList<>();
        open.add(now);
        while (!open.isEmpty()) {
            State s = open.remove(open.size() - 1);
            if (graph.containsKey(s)) {
                continue;
            }
            Map<Integer, State> ways = new HashMap<>();
            for (int person = 0; person < people.length(); person++) {
                for (int saying = 0; saying < 2 * facts; saying++) {
                    State t = next(people.charAt(person), saying, s);
                    if (t != null) {
                        ways.put(20 * person + saying, t);
                        open.add(t);
                    }
                }
            }
            graph.put(s, ways);
        }
        return graph;
    }

    /**
     * {how much, the first SAYING} from here to where it is so: each SAYING costs 1, or its COST. The
     * least of every state is reckoned from the ends back, round by round until nothing gets less.
     */
    int[] least(Map<State, Map<Integer, State>> graph, int so, int not, boolean byCost) {
        if (meets(now, so, not)) {
            return new int[] {0, Due.NONE};
        }
        Map<State, Integer> rest = new HashMap<>();
        for (State s : graph.keySet()) {
            if (meets(s, so, not)) {
                rest.put(s, 0);
            }
        }
        boolean less = true;
        while (less) {
            less = false;
            for (Map.Entry<State, Map<Integer, State>> e : graph.entrySet()) {
                for (State t : e.getValue().values()) {
                    if (rest.containsKey(t)) {
                        int by = rest.get(t) + (byCost ? price * changes(e.getKey(), t) : 1);
                        if (by < rest.getOrDefault(e.getKey(), Integer.MAX_VALUE)) {
                            rest.put(e.getKey(), by);
                            less = true;
                        }
                    }
                }
            }
        }
        if (!rest.containsKey(now)) {
            return new int[] {Due.NONE, Due.NONE};
        }
        int first = Integer.MAX_VALUE;
        for (Map.Entry<Integer, State> e : graph.get(now).entrySet()) {
            State t = e.getValue();
            int step = byCost ? price * changes(now, t) : 1;
            if (rest.containsKey(t) && rest.get(t) + step == rest.get(now)) {
                first = Math.min(first, e.getKey());
            }
        }
        return new int[] {rest.get(now), first};
    }

    int idle(int person) {
        int idle = 0;
        for (int saying = 0; saying < 2 * facts; saying++) {
            Set<Integer> so = by(people.charAt(person), saying, now);
            idle |= so != null && so.equals(now.so) ? 1 << saying : 0;
        }
        return idle;
    }

    int[] giveUp(int told) {
        for (int many = 0; many <= facts; many++) {
            for (int left = 0; left < 1 << facts; left++) {
                boolean some = Integer.bitCount(left) == many && (left & told) == left;
                if (some && settled(set(told & ~left)) != null) {
                    return new int[] {many, left};
                }
            }
        }
        return null;
    }

    /** The first order, tried in the order of numbers; null: there is none. */
    List<Integer> order(List<Integer> placed, Set<Integer> left) {
        if (left.isEmpty()) {
            return placed;
        }
        for (int fact = 0; fact < facts; fact++) {
            if (!left.contains(fact) || makesOneOf(fact, left)) {
                continue;
            }
            List<Integer> more = new ArrayList<>(placed);
            more.add(fact);
            Set<Integer> fewer = new HashSet<>(left);
            fewer.remove(fact);
            List<Integer> order = order(more, fewer);
            if (order != null) {
                return order;
            }
        }
        return null;
    }

    private boolean makesOneOf(int fact, Set<Integer> left) {
        for (Rule r : rules) {
            if (r.makes && !r.struck && r.a == fact && left.contains(r.b)) {
                return true;
            }
        }
        return false;
    }

    int[] ever(Map<State, Map<Integer, State>> graph) {
        Set<Integer> facts = new HashSet<>();
        Set<Set<Integer>> states = new HashSet<>();
        for (State s : graph.keySet()) {
            facts.addAll(s.so);
            states.add(s.so);
        }
        return new int[] {bits(facts), states.size()};
    }

    /** {how many rows, the first SAYING of the first}. */
    int[] said(char kind, State s, int[] told, int from) {
        if (from == told.length) {
            return new int[] {1, Due.NONE};
        }
        int many = 0;
        int first = Due.NONE;
        for (int saying = 0; saying < 2 * facts; saying++) {
            State t = next(kind, saying, s);
            if (t == null || bits(t.so) != told[from]) {
                continue;
            }
            int rows = said(kind, t, told, from + 1)[0];
            if (rows > 0 && first == Due.NONE) {
                first = saying;
            }
            many += rows;
        }
        return new int[] {many, first};
    }

    int who(int[] told) {
        int kinds = 0;
        for (int k = 0; k < 5; k++) {
            State s = now;
            boolean fits = true;
            for (int i = 0; i < told.length; i += 2) {
                s = behind("lbwqk".charAt(k), told[i], s);
                fits &= bits(s.so) == told[i + 1];
            }
            kinds |= fits ? 2 << k : 0;
        }
        return kinds;
    }

    /** How many of the 10 to the n cases end so. */
    BigInteger cases(State s, int told, int p, int[] plan, int from) {
        if (from == plan.length) {
            return s.so.containsAll(set(told)) ? BigInteger.ONE : BigInteger.ZERO;
        }
        char kind = people.charAt(plan[from]);
        int saying = plan[from + 1];
        int contrary = saying % 2 == 0 ? saying + 1 : saying - 1;
        BigInteger straight = cases(behind(kind, saying, s), told, p, plan, from + 2);
        BigInteger crooked = cases(behind(kind, contrary, s), told, p, plan, from + 2);
        return straight.multiply(BigInteger.valueOf(10 - p)).add(crooked.multiply(BigInteger.valueOf(p)));
    }

    long[] temper(int told, int p, int[] plan) {
        BigInteger above = cases(now, told, p, plan, 0);
        BigInteger below = BigInteger.TEN.pow(plan.length / 2);
        BigInteger common = above.gcd(below);
        return new long[] {above.divide(common).longValue(), below.divide(common).longValue()};
    }

    int[] drawn(int n, int seed) {
        BigInteger x = BigInteger.valueOf(seed);
        State s = now;
        int cost = 0;
        for (int i = 0; i < n; i++) {
            x = x.multiply(BigInteger.valueOf(16807)).mod(BigInteger.valueOf(2147483647));
            int person = x.mod(BigInteger.valueOf(people.length())).intValue();
            int saying = x.mod(BigInteger.valueOf(2L * facts)).intValue();
            State t = behind(people.charAt(person), saying, s);
            cost += price * changes(s, t);
            s = t;
        }
        return new int[] {bits(s.so), cost};
    }

    static int[] span(int[] items, int i, int n) {
        return Arrays.copyOfRange(items, i, i + n);
    }
}
