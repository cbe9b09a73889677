import java.util.Arrays;

/** People who are sentenced to be believed: whatever one of them says is so from then on. */
public final class BelievedWords {
    public static final int NONE = -1000000, BAD = -1000001, STATE = -1000002, FULL = -1000003;

    private static final int FINDINGS = -1000010, FAULTS = -1000100;
    private static final int IS_NULL = 1, NO_PLACE = 2, NOT_KIND = 3, NO_SIZE = 4, NO_STORE = 5;

    private static final int MOST_ROWS = 8, MOST_ITEMS = 40, MOST_BYTES = 120, MOST_TRACED = 16;
    private static final int MOST_FACTS = 6, MOST_RULES = 8, MOST_PEOPLE = 5, MOST_ACTS = 24;
    private static final int MOST_SAID = 999, MOST_IMAGES = 2;
    private static final int BYTES = 0, SHORTS = 1, INTS = 2;
    private static final int MAKES = 0, BARS = 1;
    private static final int PERSON = 0, LIAR = 1, BRAGGART = 2, WIT = 3, QUIET = 4, CHILD = 5;
    private static final int ASK_SIZE = 0, ASK_MARK = 1;

    private final Rows rows = new Rows();
    private final Tape tape = new Tape();
    private final Court bench = new Court();
    private final Acts acts = new Acts();
    private final Image[] images = new Image[MOST_IMAGES];
    private final Search search = new Search();
    private final Foresight foresight = new Foresight();
    private final Asks asks = new Asks();
    private int finding;

    public BelievedWords() {
        for (int k = 0; k < MOST_IMAGES; k++) {
            images[k] = new Image();
        }
    }

    // ---- rows

    public int row(int row, int lane, int n) {
        if (!isRow(row) || lane < BYTES || lane > INTS || n > MOST_ITEMS) {
            return BAD;
        }
        if (n < 0) {
            return found(NO_SIZE);
        }
        rows.lay(row, lane, n);
        return fine(n);
    }

    public int set(int row, int i, int v) {
        if (!isRow(row)) {
            return BAD;
        }
        int lack = rows.lack(row, i, 1);
        return lack != 0 ? found(lack) : fine(rows.put(row, i, v));
    }

    public int copy(int a, int i, int b, int j, int n) {
        if (!isRow(a) || !isRow(b)) {
            return BAD;
        }
        if (rows.isMissing(a) || rows.isMissing(b)) {
            return found(IS_NULL);
        }
        if (rows.laneOf(a) != rows.laneOf(b)) {
            return found(NO_STORE);
        }
        if (rows.lack(a, i, n) != 0 || rows.lack(b, j, n) != 0) {
            return found(NO_PLACE);
        }
        rows.carry(a, i, b, j, n);
        return fine(n);
    }

    public int drop(int row) {
        if (!isRow(row)) {
            return BAD;
        }
        if (rows.isMissing(row)) {
            return found(IS_NULL);
        }
        return fine(rows.remove(row));
    }

    // ---- what is told

    public int feed(int letter) {
        if (letter < 0 || letter > 255) {
            return BAD;
        }
        return tape.add(letter);
    }

    public int court() {
        boolean sound = tape.read();
        tape.wipe();
        if (!sound) {
            return FAULTS - tape.faultPlace();
        }
        bench.open(tape.told);
        acts.forget();
        return bench.law.people;
    }

    public int fault() {
        return tape.faultNumber();
    }

    public int undo() {
        return acts.isEmpty() ? STATE : acts.takeBack(bench);
    }

    // ---- what is done

    public int say(int person, int saying) {
        if (!bench.law.isPerson(person) || !bench.law.isSaying(saying)) {
            return BAD;
        }
        if (bench.now.sayings >= MOST_SAID) {
            return FULL;
        }
        acts.keep(bench.now);
        return bench.utter(person, saying);
    }

    public int pardon(int fact) {
        if (fact < 0 || fact >= bench.law.facts) {
            return BAD;
        }
        if ((bench.now.saidOf >> fact & 1) == 0) {
            return STATE;
        }
        acts.keep(bench.now);
        bench.now.saidOf &= ~(1 << fact);
        return bench.now.saidOf;
    }

    public int strike(int rule, int on) {
        if (!bench.law.isRule(rule) || isNoBit(on)) {
            return BAD;
        }
        if ((bench.now.struck >> rule & 1) == on) {
            return STATE;
        }
        acts.keep(bench.now);
        return bench.turnRule(rule);
    }

    public int stand(int what) {
        if (!bench.isOpen()) {
            return STATE;
        }
        switch (what) {
            case 0: return bench.now.so;
            case 1: return bench.now.saidOf;
            case 2: return bench.now.cost;
            case 3: return bench.now.sayings;
            default: return BAD;
        }
    }

    public int rule(int rule, int what) {
        if (!bench.law.isRule(rule)) {
            return BAD;
        }
        switch (what) {
            case 0: return bench.law.sorts[rule];
            case 1: return bench.law.ones[rule];
            case 2: return bench.law.others[rule];
            case 3: return bench.now.struck >> rule & 1;
            default: return BAD;
        }
    }

    public int cell(int person) {
        return bench.law.isPerson(person) ? bench.now.cells[person] : BAD;
    }

    // ---- foretold (FACTS told as bits)

    public int makes(int person, int saying) {
        if (!bench.law.isPerson(person) || !bench.law.isSaying(saying)) {
            return BAD;
        }
        return bench.outcome(bench.law.kinds[person], saying, bench.now.so, bench.now.saidOf);
    }

    public int shortest(int so, int not, int what) {
        int refusal = refusalOfGoal(so, not, what);
        return refusal != 0 ? refusal : search.fewest(bench, so, not, what);
    }

    public int cheapest(int so, int not, int what) {
        int refusal = refusalOfGoal(so, not, what);
        return refusal != 0 ? refusal : search.leastCost(bench, so, not, what);
    }

    public int idle(int person) {
        return bench.law.isPerson(person) ? foresight.idleSayings(bench, bench.law.kinds[person]) : BAD;
    }

    public int giveUp(int facts, int what) {
        if (!bench.isOpen()) {
            return STATE;
        }
        if (!bench.law.areFacts(facts) || isNoBit(what)) {
            return BAD;
        }
        int left = foresight.leftOut(bench, facts);
        return what == 0 ? Integer.bitCount(left) : left;
    }

    public int order(int facts, int k) {
        if (!bench.isOpen()) {
            return STATE;
        }
        if (!bench.law.areFacts(facts) || k < 0) {
            return BAD;
        }
        return foresight.inOrder(bench, facts, k);
    }

    public int ever(int what) {
        if (!bench.isOpen()) {
            return STATE;
        }
        return isNoBit(what) ? BAD : search.reachable(bench, what);
    }

    public int said(int person, int row, int i, int n, int what) {
        if (!bench.law.isPerson(person) || !isRow(row) || n < 1 || n > 4 || isNoBit(what)) {
            return BAD;
        }
        int lack = rows.lack(row, i, n);
        if (lack != 0) {
            return found(lack);
        }
        foresight.tellRows(bench, bench.law.kinds[person], rows.itemsFrom(row, i, n));
        return fine(what == 0 ? foresight.waysInAll() : foresight.firstOfAll());
    }

    public int who(int person, int row, int i, int n) {
        if (!bench.law.isPerson(person) || !isRow(row) || n < 1 || n > 12) {
            return BAD;
        }
        int lack = rows.lack(row, i, 2 * n);
        if (lack != 0) {
            return found(lack);
        }
        int[] told = rows.itemsFrom(row, i, 2 * n);
        for (int k = 0; k + 1 < told.length; k += 2) {
            if (!bench.law.isSaying(told[k])) {
                return BAD;
            }
        }
        return fine(foresight.fittingKinds(bench, told));
    }

    public long temper(int facts, int p, int row, int i, int n, int what) {
        if (!bench.isOpen()) {
            return STATE;
        }
        if (!bench.law.areFacts(facts) || p < 0 || p > 10 || !isRow(row) || n < 1 || n > 6 || isNoBit(what)) {
            return BAD;
        }
        int lack = rows.lack(row, i, 2 * n);
        if (lack != 0) {
            return found(lack);
        }
        int[] plan = rows.itemsFrom(row, i, 2 * n);
        for (int k = 0; k + 1 < plan.length; k += 2) {
            if (!bench.law.isPerson(plan[k]) || !bench.law.isSaying(plan[k + 1])) {
                return BAD;
            }
        }
        finding = 0;
        return foresight.likelihood(bench, facts, p, plan, what);
    }

    public int drawn(int n, int seed, int what) {
        if (!bench.isOpen()) {
            return STATE;
        }
        if (n < 0 || n > 60 || seed < 1 || seed > 999999 || isNoBit(what)) {
            return BAD;
        }
        return foresight.talk(bench, n, seed, what);
    }

    public int image(int k) {
        if (!isImage(k)) {
            return BAD;
        }
        if (!bench.isOpen()) {
            return STATE;
        }
        images[k].take(bench);
        return 1;
    }

    public int restore(int k) {
        if (!isImage(k)) {
            return BAD;
        }
        if (!images[k].kept) {
            return STATE;
        }
        bench.resume(images[k].law, images[k].standing);
        acts.forget();
        return 1;
    }

    // ---- asked

    public int kind(int one) {
        return bench.law.isPerson(one) ? bench.law.kinds[one] : BAD;
    }

    public int as(int one, int kind) {
        if (!bench.law.isPerson(one) || kind < PERSON || kind > CHILD) {
            return BAD;
        }
        return Asks.isOfKind(bench.law.kinds[one], kind) ? fine(one) : found(NOT_KIND);
    }

    public int ask(int one, int what) {
        if (!bench.law.isPerson(one) || isNoBit(what)) {
            return BAD;
        }
        return asks.answer(bench, one, what);
    }

    public int trace(int i) {
        return asks.traced(i);
    }

    public int count(int what) {
        switch (what) {
            case 0: return rows.present();
            case 1: return bench.law.facts;
            case 2: return bench.law.rules;
            case 3: return bench.law.people;
            case 4: return bench.law.price;
            case 5: return bench.now.so;
            case 6: return acts.kept;
            case 7: return tape.length;
            default: return BAD;
        }
    }

    public int status() {
        return finding;
    }

    // ---- what the calls share

    private int found(int number) {
        finding = number;
        return FINDINGS - number;
    }

    private int fine(int answer) {
        finding = 0;
        return answer;
    }

    /** 0: the goal is as told. */
    private int refusalOfGoal(int so, int not, int what) {
        if (!bench.isOpen()) {
            return STATE;
        }
        boolean sound = bench.law.areFacts(so) && bench.law.areFacts(not) && (so & not) == 0;
        return sound && !isNoBit(what) ? 0 : BAD;
    }

    private static boolean isRow(int row) {
        return row >= 0 && row < MOST_ROWS;
    }

    private static boolean isImage(int k) {
        return k >= 0 && k < MOST_IMAGES;
    }

    private static boolean isNoBit(int what) {
        return what != 0 && what != 1;
    }

    /** The ROWS; a length below 0 tells that a ROW is missing. */
    private static final class Rows {
        private static final int GONE = -1;

        private final int[][] items = new int[MOST_ROWS][MOST_ITEMS];
        private final int[] lanes = new int[MOST_ROWS];
        private final int[] lengths = new int[MOST_ROWS];

        Rows() {
            Arrays.fill(lengths, GONE);
        }

        boolean isMissing(int row) {
            return lengths[row] == GONE;
        }

        int laneOf(int row) {
            return lanes[row];
        }

        /** The finding of n ITEMS from i on; 0: they are there. */
        int lack(int row, int i, int n) {
            if (isMissing(row)) {
                return IS_NULL;
            }
            // the difference keeps to the ints where i + n would not
            return i < 0 || n < 0 || i > lengths[row] - n ? NO_PLACE : 0;
        }

        void lay(int row, int lane, int n) {
            Arrays.fill(items[row], 0);
            lanes[row] = lane;
            lengths[row] = n;
        }

        int put(int row, int i, int v) {
            items[row][i] = lanes[row] == BYTES ? (byte) v : lanes[row] == SHORTS ? (short) v : v;
            return items[row][i];
        }

        void carry(int a, int i, int b, int j, int n) {
            System.arraycopy(items[a], i, items[b], j, n);
        }

        int remove(int row) {
            int length = lengths[row];
            lengths[row] = GONE;
            return length;
        }

        int[] itemsFrom(int row, int i, int n) {
            return Arrays.copyOfRange(items[row], i, i + n);
        }

        int present() {
            int present = 0;
            for (int row = 0; row < MOST_ROWS; row++) {
                present += isMissing(row) ? 0 : 1;
            }
            return present;
        }
    }

    /** THE TAPE, read token by token into a law that stands aside until all of it is sound. */
    private static final class Tape {
        private static final int CANNOT_STAND = 1, NOT_AS_TOLD = 2, NO_ROOM = 3;
        private static final int NOTHING = -1;

        final Law told = new Law();
        private final int[] bytes = new int[MOST_BYTES];
        private int length;
        private int at;
        private int behind;
        private int letter;
        private int number;
        private int fault;
        private int place;

        int add(int letter) {
            if (length >= MOST_BYTES) {
                return FULL;
            }
            bytes[length] = letter;
            length++;
            return length;
        }

        void wipe() {
            length = 0;
        }

        int faultNumber() {
            return fault;
        }

        int faultPlace() {
            return place;
        }

        boolean read() {
            told.clear();
            behind = 0;
            return readLaw() && readRules() && readPeople();
        }

        private boolean readLaw() {
            if (!takes('c') || !takesNumber(1, MOST_FACTS)) {
                return false;
            }
            told.facts = number;
            if (!takes(',') || !takesNumber(0, (1 << told.facts) - 1)) {
                return false;
            }
            told.atFirst = number;
            if (!takes(',') || !takesNumber(1, 9)) {
                return false;
            }
            told.price = number;
            return takes(';');
        }

        /** Ends on the token behind the rules, which readPeople takes up. */
        private boolean readRules() {
            step();
            for (int i = 0; i <= MOST_RULES && (letter == 'm' || letter == 'x'); i++) {
                if (told.rules == MOST_RULES) {
                    return fails(NO_ROOM);
                }
                if (!readRule(letter == 'm' ? MAKES : BARS)) {
                    return false;
                }
                step();
            }
            return true;
        }

        private boolean readRule(int sort) {
            if (!takesNumber(0, told.facts - 1)) {
                return false;
            }
            int one = number;
            if (!takes(',') || !takesNumber(0, told.facts - 1)) {
                return false;
            }
            if (number == one || told.hasRule(sort, one, number)) {
                return fails(NOT_AS_TOLD);
            }
            told.addRule(sort, one, number);
            return takes(';');
        }

        private boolean readPeople() {
            for (int i = 0; i < MOST_PEOPLE; i++) {
                int kind = kindBy(letter);
                if (kind == PERSON) {
                    return fails(CANNOT_STAND);
                }
                told.addPerson(kind);
                if (!takes(';')) {
                    return false;
                }
                step();
                if (at >= length) {
                    return true;
                }
            }
            return fails(kindBy(letter) == PERSON ? CANNOT_STAND : NO_ROOM);
        }

        private static int kindBy(int letter) {
            switch (letter) {
                case 'l': return LIAR;
                case 'b': return BRAGGART;
                case 'w': return WIT;
                case 'q': return QUIET;
                case 'k': return CHILD;
                default: return PERSON;
            }
        }

        private boolean takes(int wanted) {
            step();
            return letter == wanted || fails(CANNOT_STAND);
        }

        private boolean takesNumber(int least, int most) {
            step();
            if (number == NOTHING) {
                return fails(CANNOT_STAND);
            }
            return number >= least && number <= most || fails(NOT_AS_TOLD);
        }

        private boolean fails(int number) {
            fault = number;
            place = at;
            return false;
        }

        /** Goes to the next token; at the end, and where no token is, it is neither a letter nor a number. */
        private void step() {
            at = behind;
            letter = NOTHING;
            number = NOTHING;
            if (at >= length) {
                return;
            }
            int here = bytes[at];
            if (here >= '0' && here <= '9') {
                stepOverFigures();
                return;
            }
            behind = at + 1;
            if (here >= 'a' && here <= 'z' || here == ',' || here == ';') {
                letter = here;
            }
        }

        private void stepOverFigures() {
            int end = at;
            int value = 0;
            for (; end < length && bytes[end] >= '0' && bytes[end] <= '9'; end++) {
                // more than two figures are no number, and reckoned on they could overflow
                value = end - at < 2 ? value * 10 + bytes[end] - '0' : NOTHING;
            }
            behind = end;
            number = value;
        }
    }

    /** What a text told; it stays so until another text is read, or an IMAGE restored. */
    private static final class Law {
        final int[] sorts = new int[MOST_RULES];
        final int[] ones = new int[MOST_RULES];
        final int[] others = new int[MOST_RULES];
        final int[] kinds = new int[MOST_PEOPLE];
        int facts;
        int atFirst;
        int price;
        int rules;
        int people;

        void clear() {
            facts = 0;
            atFirst = 0;
            price = 0;
            rules = 0;
            people = 0;
        }

        void become(Law other) {
            System.arraycopy(other.sorts, 0, sorts, 0, MOST_RULES);
            System.arraycopy(other.ones, 0, ones, 0, MOST_RULES);
            System.arraycopy(other.others, 0, others, 0, MOST_RULES);
            System.arraycopy(other.kinds, 0, kinds, 0, MOST_PEOPLE);
            facts = other.facts;
            atFirst = other.atFirst;
            price = other.price;
            rules = other.rules;
            people = other.people;
        }

        boolean hasRule(int sort, int one, int another) {
            for (int r = 0; r < rules; r++) {
                if (sorts[r] == sort && ones[r] == one && others[r] == another) {
                    return true;
                }
            }
            return false;
        }

        void addRule(int sort, int one, int another) {
            sorts[rules] = sort;
            ones[rules] = one;
            others[rules] = another;
            rules++;
        }

        void addPerson(int kind) {
            kinds[people] = kind;
            people++;
        }

        boolean hasKind(int kind) {
            for (int person = 0; person < people; person++) {
                if (kinds[person] == kind) {
                    return true;
                }
            }
            return false;
        }

        boolean isRule(int rule) {
            return rule >= 0 && rule < rules;
        }

        boolean isPerson(int person) {
            return person >= 0 && person < people;
        }

        boolean isSaying(int saying) {
            return saying >= 0 && saying < 2 * facts;
        }

        boolean areFacts(int bits) {
            return bits >= 0 && bits < 1 << facts;
        }
    }

    /** All of a COURT that ACTS can change. */
    private static final class Standing {
        final int[] cells = new int[MOST_PEOPLE];
        int so;
        int saidOf;
        int sayings;
        int cost;
        int struck;

        void begin(int atFirst) {
            Arrays.fill(cells, 0);
            so = atFirst;
            saidOf = 0;
            sayings = 0;
            cost = 0;
            struck = 0;
        }

        void become(Standing other) {
            System.arraycopy(other.cells, 0, cells, 0, MOST_PEOPLE);
            so = other.so;
            saidOf = other.saidOf;
            sayings = other.sayings;
            cost = other.cost;
            struck = other.struck;
        }
    }

    /** The COURT that stands: its law, how it stands now, and what the rules that stand make of FACTS. */
    private static final class Court {
        private static final int UNKNOWN = -1;

        final Law law = new Law();
        final Standing now = new Standing();
        private final int[] made = new int[MOST_FACTS];
        private final int[] barred = new int[MOST_FACTS];
        private final int[] settled = new int[1 << MOST_FACTS];

        boolean isOpen() {
            return law.facts > 0;
        }

        void open(Law told) {
            law.become(told);
            now.begin(told.atFirst);
            gatherRules();
        }

        void resume(Law told, Standing standing) {
            law.become(told);
            goBack(standing);
        }

        void goBack(Standing standing) {
            now.become(standing);
            gatherRules();
        }

        /** Due whenever other rules may stand than before: what was settled by those holds no more. */
        private void gatherRules() {
            Arrays.fill(made, 0);
            Arrays.fill(barred, 0);
            Arrays.fill(settled, UNKNOWN);
            for (int r = 0; r < law.rules; r++) {
                if ((now.struck >> r & 1) == 1) {
                    continue;
                }
                int[] by = law.sorts[r] == MAKES ? made : barred;
                by[law.ones[r]] |= 1 << law.others[r];
            }
        }

        int turnRule(int rule) {
            now.struck ^= 1 << rule;
            gatherRules();
            return Integer.bitCount(now.struck);
        }

        int utter(int person, int saying) {
            int next = outcome(law.kinds[person], saying, now.so, now.saidOf);
            now.saidOf |= factOf(saying);
            now.sayings++;
            if (next == NONE) {
                now.cells[person]++;
                return NONE;
            }
            now.cost += price(now.so, next);
            now.so = next;
            return next;
        }

        int price(int before, int after) {
            return law.price * Integer.bitCount(before ^ after);
        }

        /** What is SO by a SAYING of one of a KIND; NONE: it is not CARRIED OUT. */
        int outcome(int kind, int saying, int so, int saidOf) {
            return settle(believed(kind, saying, so, saidOf));
        }

        /** As outcome, but all FACTS are as they were by what is not CARRIED OUT. */
        int soBehind(int kind, int saying, int so, int saidOf) {
            int next = outcome(kind, saying, so, saidOf);
            return next == NONE ? so : next;
        }

        private int believed(int kind, int saying, int so, int saidOf) {
            int bits = factOf(saying);
            boolean is = (saying & 1) == 1;
            switch (kind) {
                case BRAGGART:
                    bits |= (saying >> 1) + 1 < law.facts ? bits << 1 : 1;
                    break;
                case WIT:
                    is = !is;
                    break;
                case QUIET:
                    return so;
                case CHILD:
                    if ((saidOf & bits) != 0) {
                        return so;
                    }
                    break;
                default:
                    break;
            }
            return is ? so | bits : so & ~bits;
        }

        /** What rules make of FACTS that are SO; NONE: two of all these can not be. */
        int settle(int so) {
            if (so < 0 || so >= settled.length) {
                return NONE;
            }
            if (settled[so] == UNKNOWN) {
                int grown = grow(so);
                settled[so] = isBarred(grown) ? NONE : grown;
            }
            return settled[so];
        }

        private int grow(int so) {
            int grown = so;
            int before = UNKNOWN;
            // each round but the last adds a fact
            for (int round = 0; round <= MOST_FACTS && grown != before; round++) {
                before = grown;
                for (int fact = 0; fact < law.facts; fact++) {
                    grown |= (grown >> fact & 1) == 1 ? made[fact] : 0;
                }
            }
            return grown;
        }

        private boolean isBarred(int so) {
            for (int fact = 0; fact < law.facts; fact++) {
                if ((so >> fact & 1) == 1 && (so & barred[fact]) != 0) {
                    return true;
                }
            }
            return false;
        }

        boolean makesAny(int fact, int facts) {
            return (made[fact] & facts) != 0;
        }

        static int factOf(int saying) {
            return 1 << (saying >> 1);
        }
    }

    /** How the COURT stood ahead of each ACT that can be undone, in a ring. */
    private static final class Acts {
        private final Standing[] before = new Standing[MOST_ACTS];
        private int next;
        int kept;

        Acts() {
            for (int i = 0; i < MOST_ACTS; i++) {
                before[i] = new Standing();
            }
        }

        boolean isEmpty() {
            return kept == 0;
        }

        void forget() {
            kept = 0;
        }

        void keep(Standing now) {
            before[next].become(now);
            next = (next + 1) % MOST_ACTS;
            kept = Math.min(kept + 1, MOST_ACTS);
        }

        int takeBack(Court court) {
            next = (next + MOST_ACTS - 1) % MOST_ACTS;
            kept--;
            court.goBack(before[next]);
            return kept;
        }
    }

    /** An IMAGE of a COURT. */
    private static final class Image {
        final Law law = new Law();
        final Standing standing = new Standing();
        boolean kept;

        void take(Court court) {
            law.become(court.law);
            standing.become(court.now);
            kept = true;
        }
    }

    /**
     * Ways of SAYINGS, each CARRIED OUT. A node is what is SO and, behind it, of what was SAID; the latter
     * is left out where it does not matter.
     */
    private static final class Search {
        private static final int CODE = 20;
        private static final int NEVER = 1 << MOST_FACTS;
        private static final int MOST_LEVELS = MOST_FACTS << 2 * MOST_FACTS;

        private final int[] movers = new int[MOST_PEOPLE];
        private int[] walks = new int[0];
        private int[] costs = new int[0];
        private int[] firsts = new int[0];
        private int moving;
        private int facts;
        private int nodes;
        private boolean minding;
        private boolean byCost;
        private int walk;
        private int farthest;
        private int wantedSo;
        private int wantedNot;
        private int first;

        int fewest(Court court, int so, int not, int what) {
            begin(court.law, so, not, false);
            if (isMet(court.now.so)) {
                return what == 0 ? 0 : NONE;
            }
            int sayings = explore(court);
            return what == 0 ? sayings : first;
        }

        /** Costs are reckoned in FACTS that change: the PRICE is one for all. */
        int leastCost(Court court, int so, int not, int what) {
            begin(court.law, so, not, true);
            if (isMet(court.now.so)) {
                return what == 0 ? 0 : NONE;
            }
            int changes = explore(court);
            if (changes == NONE) {
                return NONE;
            }
            return what == 0 ? changes * court.law.price : first;
        }

        int reachable(Court court, int what) {
            begin(court.law, NEVER, 0, false);
            explore(court);
            int bits = court.now.so;
            long states = 1L << court.now.so;
            for (int node = 0; node < nodes; node++) {
                if (walks[node] == walk) {
                    bits |= soOf(node);
                    states |= 1L << soOf(node);
                }
            }
            return what == 0 ? bits : Long.bitCount(states);
        }

        private void begin(Law law, int so, int not, boolean byCost) {
            facts = law.facts;
            gatherMovers(law);
            nodes = 1 << (minding ? 2 * facts : facts);
            if (walks.length < nodes) {
                walks = new int[nodes];
                costs = new int[nodes];
                firsts = new int[nodes];
            }
            walk++;
            farthest = 0;
            first = NONE;
            wantedSo = so;
            wantedNot = not;
            this.byCost = byCost;
        }

        /**
         * Behind the first SAYING the RULES have looked: a quiet one changes nothing then. A wit can make
         * all so that a liar can, and either of them all that a child can, whatever was SAID.
         */
        private void gatherMovers(Law law) {
            boolean free = law.hasKind(LIAR) || law.hasKind(WIT);
            minding = !free && law.hasKind(CHILD);
            moving = 0;
            if (free || minding) {
                movers[moving] = free ? LIAR : CHILD;
                moving++;
            }
            if (law.hasKind(BRAGGART)) {
                movers[moving] = BRAGGART;
                moving++;
            }
        }

        /** The level at which it is met first, with the first SAYING by which it is; NONE: there is none. */
        private int explore(Court court) {
            sayFirst(court);
            for (int level = 0; level <= farthest && level <= MOST_LEVELS; level++) {
                for (int node = 0; node < nodes; node++) {
                    if (walks[node] != walk || costs[node] != level) {
                        continue;
                    }
                    if (!isMet(soOf(node))) {
                        lead(court, node);
                    } else if (first == NONE || firsts[node] < first) {
                        first = firsts[node];
                    }
                }
                if (first != NONE) {
                    return level;
                }
            }
            return NONE;
        }

        private boolean isMet(int so) {
            return (so & wantedSo) == wantedSo && (so & wantedNot) == 0;
        }

        private int soOf(int node) {
            return node & (1 << facts) - 1;
        }

        private void sayFirst(Court court) {
            int so = court.now.so;
            int saidOf = court.now.saidOf;
            for (int person = 0; person < court.law.people; person++) {
                for (int saying = 0; saying < 2 * facts; saying++) {
                    int next = court.outcome(court.law.kinds[person], saying, so, saidOf);
                    if (next != NONE) {
                        enter(next, saidOf | Court.factOf(saying), stepOf(so, next), CODE * person + saying);
                    }
                }
            }
        }

        /** What changes nothing leads nowhere: at most a child is bound by it. */
        private void lead(Court court, int node) {
            int so = soOf(node);
            int saidOf = node >> facts;
            for (int k = 0; k < moving; k++) {
                for (int saying = 0; saying < 2 * facts; saying++) {
                    int next = court.outcome(movers[k], saying, so, saidOf);
                    if (next != NONE && next != so) {
                        enter(next, saidOf | Court.factOf(saying), costs[node] + stepOf(so, next), firsts[node]);
                    }
                }
            }
        }

        private int stepOf(int so, int next) {
            return byCost ? Integer.bitCount(so ^ next) : 1;
        }

        private void enter(int so, int saidOf, int cost, int code) {
            int node = minding ? saidOf << facts | so : so;
            if (walks[node] == walk && (costs[node] < cost || costs[node] == cost && firsts[node] <= code)) {
                return;
            }
            walks[node] = walk;
            costs[node] = cost;
            firsts[node] = code;
            farthest = Math.max(farthest, cost);
        }
    }

    /** What is foretold by trying it out. */
    private static final class Foresight {
        private static final int SETS = 1 << MOST_FACTS;

        private int[] ways = new int[SETS];
        private int[] firsts = new int[SETS];
        private int[] nextWays = new int[SETS];
        private int[] nextFirsts = new int[SETS];

        int idleSayings(Court court, int kind) {
            int idle = 0;
            for (int saying = 0; saying < 2 * court.law.facts; saying++) {
                if (court.outcome(kind, saying, court.now.so, court.now.saidOf) == court.now.so) {
                    idle |= 1 << saying;
                }
            }
            return idle;
        }

        int leftOut(Court court, int facts) {
            // with none left over nothing is made, so this can always be
            int best = facts;
            for (int left = 0; left < facts; left++) {
                boolean fewer = (left & ~facts) == 0 && Integer.bitCount(left) < Integer.bitCount(best);
                if (fewer && court.settle(facts & ~left) != NONE) {
                    best = left;
                }
            }
            return best;
        }

        /** All is put in order even where k is near: by a circle behind it there is no order. */
        int inOrder(Court court, int facts, int k) {
            int left = facts;
            int told = NONE;
            for (int place = 0; place < MOST_FACTS && left != 0; place++) {
                int fact = firstFree(court, left);
                if (fact == NONE) {
                    return NONE;
                }
                if (place == k) {
                    told = fact;
                }
                left &= ~(1 << fact);
            }
            return told;
        }

        private static int firstFree(Court court, int left) {
            for (int fact = 0; fact < court.law.facts; fact++) {
                if ((left >> fact & 1) == 1 && !court.makesAny(fact, left)) {
                    return fact;
                }
            }
            return NONE;
        }

        /** Counts rows of SAYINGS by the FACTS of which anything was SAID behind them. */
        void tellRows(Court court, int kind, int[] told) {
            Arrays.fill(ways, 0);
            ways[court.now.saidOf] = 1;
            int so = court.now.so;
            for (int k = 0; k < told.length; k++) {
                Arrays.fill(nextWays, 0);
                for (int saying = 0; saying < 2 * court.law.facts; saying++) {
                    tellSaying(court, kind, saying, so, told[k], k == 0);
                }
                turnOver();
                so = told[k];
            }
        }

        private void tellSaying(Court court, int kind, int saying, int so, int told, boolean atStart) {
            for (int saidOf = 0; saidOf < SETS; saidOf++) {
                if (ways[saidOf] == 0) {
                    continue;
                }
                int next = court.outcome(kind, saying, so, saidOf);
                // an ITEM may be the number NONE
                if (next == NONE || next != told) {
                    continue;
                }
                int behind = saidOf | Court.factOf(saying);
                int first = atStart ? saying : firsts[saidOf];
                if (nextWays[behind] == 0 || first < nextFirsts[behind]) {
                    nextFirsts[behind] = first;
                }
                nextWays[behind] += ways[saidOf];
            }
        }

        private void turnOver() {
            int[] spareWays = ways;
            int[] spareFirsts = firsts;
            ways = nextWays;
            firsts = nextFirsts;
            nextWays = spareWays;
            nextFirsts = spareFirsts;
        }

        int waysInAll() {
            int sum = 0;
            for (int saidOf = 0; saidOf < SETS; saidOf++) {
                sum += ways[saidOf];
            }
            return sum;
        }

        int firstOfAll() {
            int first = NONE;
            for (int saidOf = 0; saidOf < SETS; saidOf++) {
                if (ways[saidOf] != 0 && (first == NONE || firsts[saidOf] < first)) {
                    first = firsts[saidOf];
                }
            }
            return first;
        }

        int fittingKinds(Court court, int[] told) {
            int kinds = 0;
            for (int kind = LIAR; kind <= CHILD; kind++) {
                if (fits(court, kind, told)) {
                    kinds |= 1 << kind;
                }
            }
            return kinds;
        }

        private static boolean fits(Court court, int kind, int[] told) {
            int so = court.now.so;
            int saidOf = court.now.saidOf;
            for (int k = 0; k + 1 < told.length; k += 2) {
                so = court.soBehind(kind, told[k], so, saidOf);
                saidOf |= Court.factOf(told[k]);
                if (so != told[k + 1]) {
                    return false;
                }
            }
            return true;
        }

        long likelihood(Court court, int facts, int p, int[] plan, int what) {
            int n = plan.length / 2;
            long above = 0;
            long below = 1;
            for (int k = 0; k < n; k++) {
                below *= 10;
            }
            for (int contrary = 0; contrary < 1 << n; contrary++) {
                long cases = cases(p, contrary, n);
                if (cases != 0 && (soByPlan(court, plan, contrary) & facts) == facts) {
                    above += cases;
                }
            }
            long common = commonDivisor(below, above);
            if (common < 1) {
                return NONE;
            }
            return what == 0 ? above / common : below / common;
        }

        private static long cases(int p, int contrary, int n) {
            long cases = 1;
            for (int k = 0; k < n; k++) {
                cases *= (contrary >> k & 1) == 1 ? p : 10 - p;
            }
            return cases;
        }

        private static int soByPlan(Court court, int[] plan, int contrary) {
            int so = court.now.so;
            int saidOf = court.now.saidOf;
            for (int k = 0; k + 1 < plan.length; k += 2) {
                int saying = plan[k + 1] ^ (contrary >> k / 2 & 1);
                so = court.soBehind(court.law.kinds[plan[k]], saying, so, saidOf);
                saidOf |= Court.factOf(saying);
            }
            return so;
        }

        private static long commonDivisor(long a, long b) {
            long greater = a;
            long less = b;
            for (int i = 0; i < 100 && less != 0; i++) {
                long rest = greater % less;
                greater = less;
                less = rest;
            }
            return greater;
        }

        int talk(Court court, int n, int seed, int what) {
            if (!court.isOpen() || court.law.people < 1) {
                return STATE;
            }
            long x = seed;
            int so = court.now.so;
            int saidOf = court.now.saidOf;
            int cost = 0;
            for (int k = 0; k < n; k++) {
                x = x * 16807 % 2147483647;
                int person = (int) (x % court.law.people);
                int saying = (int) (x % (2 * court.law.facts));
                int next = court.soBehind(court.law.kinds[person], saying, so, saidOf);
                cost += court.price(so, next);
                saidOf |= Court.factOf(saying);
                so = next;
            }
            return what == 0 ? so : cost;
        }
    }

    /** ASKS of PEOPLE by BODIES, and THE TRACE that these leave. */
    private static final class Asks {
        private static final int DEEPEST = 20;
        private static final int[] PARENTS = {0, 0, 1, 1, 0, 4};
        private static final int[] SIZES = {10, 11, 12, 11, 13, 14};
        private static final int[] MARKS = {20, 21, 24, 22, 23, 23};

        private final int[] trace = new int[MOST_TRACED];
        private int left;

        static boolean isOfKind(int kind, int wanted) {
            int nearest = kind;
            for (int i = 0; i < PARENTS.length && nearest != wanted; i++) {
                nearest = PARENTS[nearest];
            }
            return nearest == wanted;
        }

        int traced(int i) {
            return i >= 0 && i < left ? trace[i] : NONE;
        }

        int answer(Court court, int one, int what) {
            left = 0;
            return askedOf(court, one, what, 0);
        }

        private int askedOf(Court court, int one, int what, int depth) {
            int kind = court.law.kinds[one];
            return body(court, one, what == ASK_SIZE ? SIZES[kind] : MARKS[kind], depth);
        }

        private int body(Court court, int one, int number, int depth) {
            if (depth > DEEPEST) {
                return 0;
            }
            leave(number);
            int deeper = depth + 1;
            switch (number) {
                case 10: return court.now.cells[one];
                case 11: return body(court, one, 10, deeper) + askedOf(court, one, ASK_MARK, deeper);
                case 12: return -body(court, one, 11, deeper);
                case 13: return body(court, one, 10, deeper) - 100;
                case 14: return 2 * body(court, one, 13, deeper);
                case 20: return one;
                case 21: return body(court, one, 20, deeper) + court.now.so;
                case 22: return body(court, one, 21, deeper) - 1000;
                case 23: return body(court, one, 20, deeper) - askedOf(court, one, ASK_SIZE, deeper);
                case 24: return 2 * body(court, one, 21, deeper);
                default: return 0;
            }
        }

        private void leave(int number) {
            if (left < MOST_TRACED) {
                trace[left] = number;
                left++;
            }
        }
    }
}
