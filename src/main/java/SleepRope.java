import java.util.Arrays;

/** A dormitory whose boys sleep tied to one rope; ../shared/DOC.md tells what each call promises. */
public final class SleepRope {
    public static final int NONE = -1;

    private static final int BOYS = 12;
    private static final int KNOTS = 11;
    private static final int DREAMS = 6;
    private static final int LAWS = 8;
    private static final int STATEMENTS = 90;
    private static final int OPEN = 8;
    private static final int LETTERS = 6;
    private static final int DIGITS = 4;
    private static final int TAPE = 1600;
    private static final int FED = 20;
    private static final int TOLD = 200;
    private static final int ACTS = 20;
    private static final int LAST_MINUTE = 999;
    private static final int MOST_FORCE = 9999;
    private static final int MOST_FELT = 9999;
    private static final int MOST_SLACK = 99;
    private static final int LIMIT = 1000000;
    private static final int ORDERS = 720;
    private static final int ROUNDS = 1000000;
    private static final int BEST_BOYS = 6;
    private static final int TWO_BOYS = 8;
    private static final int MOST_CUTS = 4;
    private static final int HOW_MANY = 20;
    private static final int KINDS_REFUSED = 6;

    private static final int SNORES = 1;
    private static final int GHOST = 2;

    // An image: two bytes, then so many for each BOY and each KNOT, then one.
    private static final int PER_BOY = 7;
    private static final int PER_KNOT = 2;
    private static final int IMAGE = 2 + PER_BOY * BOYS + PER_KNOT * KNOTS + 1;

    // A TUG that is told is one number, so that an ACT's copy stays small.
    private static final int TUG_BOY = 10;
    private static final int TUG_DREAM = 14;
    private static final int TUG_ROOT_MINUTE = 17;
    private static final int TUG_ROOT_BOY = 27;
    private static final int MINUTE_BITS = 1023;
    private static final int BOY_BITS = 15;
    private static final int DREAM_BITS = 7;

    // The OWN WORDS, in the order of the numbers below; the first seven are also what a LAW may ask.
    private static final String OWN_WORDS =
        "force weight depth place minute beside felt boy odds pulls snores ghost slack at dream tug lasts passes pass deep when or and not all min max";
    private static final int OWN_COUNT = 27;
    private static final int ASKED = 7;
    private static final int FORCE = 0;
    private static final int WEIGHT = 1;
    private static final int DEPTH = 2;
    private static final int PLACE = 3;
    private static final int MINUTE = 4;
    private static final int BESIDE = 5;
    private static final int FELT = 6;
    private static final int WORD_BOY = 7;
    private static final int WORD_ODDS = 8;
    private static final int WORD_PULLS = 9;
    private static final int WORD_SNORES = 10;
    private static final int WORD_GHOST = 11;
    private static final int WORD_SLACK = 12;
    private static final int WORD_AT = 13;
    private static final int WORD_DREAM = 14;
    private static final int WORD_TUG = 15;
    private static final int WORD_LASTS = 16;
    private static final int WORD_PASSES = 17;
    private static final int WORD_PASS = 18;
    private static final int WORD_DEEP = 19;
    private static final int WORD_WHEN = 20;
    private static final int WORD_OR = 21;
    private static final int WORD_AND = 22;
    private static final int WORD_NOT = 23;
    private static final int WORD_ALL = 24;
    private static final int WORD_MIN = 25;
    private static final int WORD_MAX = 26;

    // The kinds of what is read from a text: BAD is what no DORM has anywhere.
    private static final int END = 0;
    private static final int BAD = 1;
    private static final int NAME = 2;
    private static final int OWN = 3;
    private static final int NUMBER = 4;
    private static final int SIGN = 5;

    private static final int WRONG = 1;
    private static final int TWICE = 2;
    private static final int CANNOT_BE = 4;
    private static final int TOO_MANY = 5;

    // A LAW's code: a NUMBER is itself, what it asks is -1 .. -7, below that is what is done.
    private static final int DO_NOT = -8;
    private static final int DO_TIMES = -9;
    private static final int DO_OVER = -10;
    private static final int DO_REST = -11;
    private static final int DO_PLUS = -12;
    private static final int DO_MINUS = -13;
    private static final int DO_LESS = -14;
    private static final int DO_MORE = -15;
    private static final int DO_LIKE = -16;
    private static final int DO_AND = -17;
    private static final int DO_OR = -18;
    private static final int DO_MIN = -19;
    private static final int DO_MAX = -20;
    private static final int STACK = 64;

    private final int[] tape = new int[TAPE];
    private int length;
    private final Reader reader = new Reader();
    private Dorm dorm = new Dorm();
    private final Rope rope = new Rope();
    private final Rope evening = new Rope();
    private final Acts acts = new Acts();
    private final Night night = new Night();
    private final Tug trial = new Tug();
    private final Orders orders = new Orders();
    private final int[] heard = new int[BOYS];
    private boolean isHeard;
    private final int[] octets = new int[IMAGE];
    private int octetCount;
    private final int[] refusals = new int[KINDS_REFUSED];
    // Counts what may change BADNESS, so that the dear searches are made once for each state.
    private int changes;

    public SleepRope() {
    }

    // ---- the tape and the text

    public int feed(int a, int b, int c, int d, int e) {
        if (length + FED > TAPE) {
            refuse(0);
            return NONE;
        }
        putOnTape(a);
        putOnTape(b);
        putOnTape(c);
        putOnTape(d);
        putOnTape(e);
        return length;
    }

    public boolean end(int n) {
        if (n < 0 || n > length) {
            refuse(0);
            return false;
        }
        length = n;
        return true;
    }

    public int dorm() {
        int told = length;
        length = 0;
        if (!reader.read(tape, told)) {
            refuse(1);
            return NONE;
        }
        // The two Dorms change places, so that no text makes a new one.
        Dorm old = dorm;
        dorm = reader.dorm;
        reader.dorm = old;
        rope.begin(dorm);
        acts.forget();
        isHeard = false;
        changes++;
        return dorm.statements;
    }

    public int fault(int what) {
        switch (what) {
            case 0:
                return reader.fault;
            case 1:
                return reader.faultAt;
            default:
                return NONE;
        }
    }

    // ---- what there is

    public int has(int what) {
        switch (what) {
            case 0:
                return dorm.boys;
            case 1:
                return dorm.dreams;
            case 2:
                return dorm.laws.count;
            case 3:
                return tiedKnots();
            case 4:
                return rope.minute;
            case 5:
                return rope.count - rope.awake();
            case 6:
                return dreamers(NONE);
            case 7:
                return caughtOnes();
            case 8:
                return rope.told();
            case 9:
                return acts.held;
            case 10:
                return dorm.boys - tiedKnots();
            case 11:
                return night.seed;
            default:
                return NONE;
        }
    }

    public int letter(int kind, int which, int k) {
        if (k < 0 || k >= LETTERS) {
            return NONE;
        }
        if (kind == 0 && isBoy(which)) {
            return letterOf(dorm.boyName[which], k);
        }
        if (kind == 1 && isDream(which)) {
            return letterOf(dorm.dreamName[which], k);
        }
        return NONE;
    }

    public int boy(int boy, int what) {
        if (!isBoy(boy)) {
            return NONE;
        }
        switch (what) {
            case 0:
                return dorm.weight[boy];
            case 1:
                return dorm.depth[boy];
            case 2:
                return dorm.odds[boy];
            case 3:
                return dorm.pulls[boy];
            case 4:
                return dorm.marks[boy];
            case 5:
                return rope.placeOf(boy);
            case 6:
                return rope.asleep[boy] ? 1 : 0;
            case 7:
                return rope.dream[boy];
            case 8:
                return rope.left[boy];
            case 9:
                return rope.caught[boy];
            case 10:
                return rope.felt[boy];
            case 11:
                return rope.greatest[boy];
            case 12:
                return rope.together[boy];
            default:
                return NONE;
        }
    }

    public int at(int place) {
        return isPlace(place) ? rope.who[place] : NONE;
    }

    public int knot(int knot, int what) {
        if (!isKnot(knot)) {
            return NONE;
        }
        switch (what) {
            case 0:
                return rope.tied[knot] ? 1 : 0;
            case 1:
                return rope.slack[knot];
            case 2:
                return strain(knot);
            default:
                return NONE;
        }
    }

    public int dream(int dream, int what) {
        if (!isDream(dream)) {
            return NONE;
        }
        switch (what) {
            case 0:
                return dorm.tug[dream];
            case 1:
                return dorm.lasts[dream];
            case 2:
                return dorm.passes[dream];
            case 3:
                return dorm.dreamOdds[dream];
            case 4:
                return dreamers(dream);
            default:
                return NONE;
        }
    }

    public int tug(int k, int what) {
        if (k < 0 || k >= rope.told()) {
            return NONE;
        }
        int it = rope.toldTug(k);
        switch (what) {
            case 0:
                return it & MINUTE_BITS;
            case 1:
                return (it >> TUG_BOY) & BOY_BITS;
            case 2:
                return (it >> TUG_DREAM) & DREAM_BITS;
            case 3:
                return (it >> TUG_ROOT_MINUTE) & MINUTE_BITS;
            case 4:
                return (it >> TUG_ROOT_BOY) & BOY_BITS;
            default:
                return NONE;
        }
    }

    public int law(int place, int force, boolean passed) {
        if (!isPlace(place) || !isForce(force)) {
            return NONE;
        }
        int boy = rope.who[place];
        trial.look(dorm, rope, place, force);
        if (!passed) {
            return dorm.laws.first(true, dorm.depth[boy], MOST_FORCE);
        }
        if (dorm.isGhost(boy)) {
            return force;
        }
        return dorm.laws.first(false, force - dorm.weight[boy], force);
    }

    // ---- acts

    public int go(int n) {
        if (n < 1 || n > 99 || rope.count == 0 || rope.minute >= LAST_MINUTE) {
            refuse(2);
            return NONE;
        }
        startAct();
        int before = rope.tugs;
        for (int i = 0; i < n && rope.minute < LAST_MINUTE; i++) {
            night.minute(dorm, rope);
        }
        return rope.tugs - before;
    }

    public int dreams(int boy, int dream) {
        if (!isBoy(boy) || !isDream(dream) || !night.canBegin(dorm, rope, boy)) {
            refuse(2);
            return NONE;
        }
        startAct();
        return night.begins(dorm, rope, boy, dream, false);
    }

    public boolean wake(int boy, boolean is) {
        if (!isBoy(boy) || rope.asleep[boy] != is) {
            refuse(2);
            return false;
        }
        startAct();
        if (is) {
            rope.getsUp(boy);
        } else {
            rope.asleep[boy] = true;
        }
        return true;
    }

    public boolean tie(int knot, boolean is) {
        if (!isKnot(knot) || rope.tied[knot] == is) {
            refuse(3);
            return false;
        }
        startAct();
        rope.tied[knot] = is;
        return true;
    }

    public int slack(int knot, int slack) {
        if (!isKnot(knot) || slack < 0 || slack > MOST_SLACK) {
            refuse(3);
            return NONE;
        }
        startAct();
        int was = rope.slack[knot];
        rope.slack[knot] = slack;
        return was;
    }

    public boolean swap(int first, int second) {
        if (!isPlace(first) || !isPlace(second) || first == second) {
            refuse(3);
            return false;
        }
        startAct();
        rope.change(first, second);
        return true;
    }

    public boolean undo() {
        if (!acts.takeBack(rope)) {
            refuse(4);
            return false;
        }
        changes++;
        return true;
    }

    public boolean seed(int seed) {
        if (seed < 0) {
            refuse(5);
            return false;
        }
        night.seed = seed;
        return true;
    }

    // ---- what would be

    public int feels(int from, int force, int place) {
        if (!isPlace(from) || !isPlace(place) || from == place || !isForce(force)) {
            return NONE;
        }
        trial.goes(dorm, rope, from, force);
        return trial.came[place];
    }

    public int wakes(int from, int force) {
        if (!isPlace(from) || !isForce(force)) {
            return NONE;
        }
        trial.goes(dorm, rope, from, force);
        return trial.woken;
    }

    public int least(int from, int place) {
        if (!isPlace(from) || !isPlace(place) || from == place) {
            return NONE;
        }
        int boy = rope.who[place];
        if (dorm.isGhost(boy) || !rope.asleep[boy]) {
            return NONE;
        }
        // Less may wake him where more does not (who wakes passes nothing on): so each force is tried.
        for (int force = 1; force <= MOST_FORCE; force++) {
            trial.goes(dorm, rope, from, force);
            if ((trial.woken >> place & 1) == 1) {
                return force;
            }
        }
        return NONE;
    }

    public int bad() {
        return orders.badAsItIs(dorm, rope);
    }

    public int best(int k) {
        if (rope.count < 1 || rope.count > BEST_BOYS || k < NONE || k >= rope.count) {
            return NONE;
        }
        orders.findBest(dorm, rope, changes);
        return k == NONE ? orders.bestBad : orders.best[k];
    }

    public int exchange(int k) {
        boolean isOne = k == NONE || k == HOW_MANY || isPlace(k);
        if (rope.count < 1 || !isOne) {
            return NONE;
        }
        orders.findExchanges(dorm, rope, changes);
        if (k == NONE) {
            return orders.exchangedBad;
        }
        return isPlace(k) ? orders.exchanged[k] : orders.exchanges;
    }

    public int lay() {
        if (rope.count < 1) {
            refuse(3);
            return NONE;
        }
        orders.findExchanges(dorm, rope, changes);
        if (orders.exchanges > 0) {
            startAct();
            System.arraycopy(orders.exchanged, 0, rope.who, 0, BOYS);
        }
        return orders.exchanges;
    }

    public int two(int what) {
        if (rope.count < 2 || rope.count > TWO_BOYS || what < 0 || what > 1) {
            return NONE;
        }
        orders.findTwo(dorm, rope, changes);
        return what == 0 ? orders.twoBad : orders.twoBits;
    }

    // ---- who pulled

    public boolean hear() {
        int told = length;
        length = 0;
        if (rope.count < 1 || told != 2 * rope.count) {
            refuse(1);
            return false;
        }
        for (int place = 0; place < rope.count; place++) {
            heard[place] = pairOnTape(2 * place);
        }
        isHeard = true;
        return true;
    }

    public int pulled(int boy, int dream) {
        if (!isBoy(boy) || (dream != NONE && !isDream(dream)) || !isHeard) {
            return NONE;
        }
        int all = 0;
        for (int other = 0; other < dorm.boys; other++) {
            for (int d = 0; d < dorm.dreams; d++) {
                all += oddsOfHaving(other, d);
            }
        }
        if (all <= 0) {
            return NONE;
        }
        int his = 0;
        for (int d = 0; d < dorm.dreams; d++) {
            if (dream == NONE || dream == d) {
                his += 1000 * oddsOfHaving(boy, d) / all;
            }
        }
        return his;
    }

    // ---- cuts, walks, beds, nights

    public int cut(int n, int k) {
        if (n < 0 || n > MOST_CUTS || rope.count < 1 || tiedKnots() < n || k < NONE || k >= n) {
            return NONE;
        }
        // KNOT 0 is the highest bit: so the sets from the greatest on are the first by numbers.
        int least = NONE;
        int cuts = 0;
        for (int set = (1 << KNOTS) - 1; set >= 0; set--) {
            if (Integer.bitCount(set) == n && areTied(set)) {
                int heaviest = heaviestPiece(set);
                if (least == NONE || heaviest < least) {
                    least = heaviest;
                    cuts = set;
                }
            }
        }
        return k == NONE ? least : knotOfSet(cuts, k);
    }

    public int walk(int place) {
        if (!isPlace(place)) {
            return NONE;
        }
        return takenBy(place, 1) | takenBy(place, -1);
    }

    public int beds(int holds, int k) {
        if (holds < 1 || holds > MOST_FORCE || rope.count < 1 || k < NONE) {
            return NONE;
        }
        int count = 0;
        int room = 0;
        int first = NONE;
        for (int place = 0; place < rope.count; place++) {
            int weight = dorm.weight[rope.who[place]];
            if (weight > holds) {
                return NONE;
            }
            if (count == 0 || weight > room) {
                first = count == k ? place : first;
                count++;
                room = holds;
            }
            room -= weight;
        }
        return k == NONE ? count : first;
    }

    public int nights(int n, int minutes, int what) {
        if (n < 1 || n > 20 || minutes < 1 || minutes > 60 || what < 0 || what > 2
                || rope.count < 1) {
            return NONE;
        }
        int tugs = 0;
        int awake = 0;
        int whole = 0;
        evening.take(rope);
        for (int i = 0; i < n; i++) {
            for (int m = 0; m < minutes && rope.minute < LAST_MINUTE; m++) {
                night.minute(dorm, rope);
            }
            tugs += rope.tugs - evening.tugs;
            awake += rope.awake();
            whole += allAwake() ? 1 : 0;
            rope.take(evening);
        }
        return what == 0 ? tugs : what == 1 ? awake : whole;
    }

    // ---- images, refusals

    public int image() {
        octetCount = 0;
        putPair(rope.minute);
        for (int place = 0; place < rope.count; place++) {
            int boy = rope.who[place];
            putOctet(boy);
            putOctet(rope.asleep[boy] ? 1 : 0);
            putOctet(rope.dream[boy] + 1);
            putOctet(rope.left[boy]);
            putOctet(rope.caught[boy] + 1);
            putPair(Math.min(rope.felt[boy], MOST_FELT));
        }
        for (int knot = 0; knot < rope.count - 1; knot++) {
            putOctet(rope.tied[knot] ? 1 : 0);
            putOctet(rope.slack[knot]);
        }
        putOctet(sealOf(octets, octetCount));
        return octetCount;
    }

    public int octet(int k) {
        return k < 0 || k >= octetCount ? NONE : octets[k];
    }

    public boolean on() {
        int told = length;
        length = 0;
        if (!isImage(told)) {
            refuse(5);
            return false;
        }
        rope.begin(dorm);
        rope.minute = pairOnTape(0);
        for (int place = 0; place < rope.count; place++) {
            int from = 2 + PER_BOY * place;
            int boy = onTape(from);
            rope.who[place] = boy;
            rope.asleep[boy] = onTape(from + 1) == 1;
            rope.dream[boy] = onTape(from + 2) - 1;
            rope.left[boy] = onTape(from + 3);
            rope.caught[boy] = onTape(from + 4) - 1;
            rope.felt[boy] = pairOnTape(from + 5);
        }
        for (int knot = 0; knot < rope.count - 1; knot++) {
            int from = 2 + PER_BOY * rope.count + PER_KNOT * knot;
            rope.tied[knot] = onTape(from) == 1;
            rope.slack[knot] = onTape(from + 1);
        }
        acts.forget();
        isHeard = false;
        changes++;
        return true;
    }

    public int status(int what) {
        return what < 0 || what >= KINDS_REFUSED ? NONE : refusals[what];
    }

    // ---- what the calls share

    private void refuse(int kind) {
        if (kind >= 0 && kind < KINDS_REFUSED) {
            refusals[kind]++;
        }
    }

    private void startAct() {
        acts.keep(rope);
        changes++;
    }

    private void putOnTape(int number) {
        for (int shift = 24; shift >= 0 && length < TAPE; shift -= 8) {
            tape[length] = number >> shift & 255;
            length++;
        }
    }

    private int onTape(int k) {
        return k < 0 || k >= TAPE ? 0 : tape[k];
    }

    private int pairOnTape(int k) {
        return 256 * onTape(k) + onTape(k + 1);
    }

    private void putOctet(int octet) {
        if (octetCount < IMAGE) {
            octets[octetCount] = octet;
            octetCount++;
        }
    }

    private void putPair(int number) {
        putOctet(number / 256);
        putOctet(number % 256);
    }

    private static int sealOf(int[] bytes, int count) {
        int seal = 89;
        for (int i = 0; i < count && i < bytes.length; i++) {
            seal = (5 * seal + bytes[i]) % 251;
        }
        return seal;
    }

    private static int letterOf(int name, int k) {
        return name >> 5 * k & 31;
    }

    private boolean isBoy(int boy) {
        return boy >= 0 && boy < dorm.boys;
    }

    private boolean isPlace(int place) {
        return place >= 0 && place < rope.count;
    }

    private boolean isKnot(int knot) {
        return knot >= 0 && knot < rope.count - 1;
    }

    private boolean isDream(int dream) {
        return dream >= 0 && dream < dorm.dreams;
    }

    private static boolean isForce(int force) {
        return force >= 1 && force <= MOST_FORCE;
    }

    private int tiedKnots() {
        int count = 0;
        for (int knot = 0; knot < rope.count - 1; knot++) {
            count += rope.tied[knot] ? 1 : 0;
        }
        return count;
    }

    // BOYS who have that DREAM (NONE: any).
    private int dreamers(int dream) {
        int count = 0;
        for (int boy = 0; boy < dorm.boys; boy++) {
            int his = rope.dream[boy];
            count += his != NONE && (dream == NONE || his == dream) ? 1 : 0;
        }
        return count;
    }

    private int caughtOnes() {
        int count = 0;
        for (int boy = 0; boy < dorm.boys; boy++) {
            count += rope.caught[boy] != NONE ? 1 : 0;
        }
        return count;
    }

    private boolean allAwake() {
        for (int boy = 0; boy < dorm.boys; boy++) {
            if (rope.asleep[boy] && !dorm.isGhost(boy)) {
                return false;
            }
        }
        return true;
    }

    private int strain(int knot) {
        int above = 0;
        int strain = 0;
        for (int k = rope.count - 2; k >= knot && k >= 0; k--) {
            int boy = rope.who[k + 1];
            int pull = rope.asleep[boy] ? dorm.pulls[boy] : 0;
            strain = rope.tied[k] ? pull + above : 0;
            above = Math.max(0, strain - rope.slack[k]);
        }
        return strain;
    }

    // His odds times those of the DREAM; 0 if he can't have PULLED by it.
    private int oddsOfHaving(int boy, int dream) {
        if (dorm.isGhost(boy)) {
            return 0;
        }
        trial.goes(dorm, rope, rope.placeOf(boy), dorm.tug[dream]);
        for (int place = 0; place < rope.count; place++) {
            if (trial.came[place] != heard[place]) {
                return 0;
            }
        }
        return dorm.odds[boy] * dorm.dreamOdds[dream];
    }

    private static boolean inSet(int set, int knot) {
        return (set >> KNOTS - 1 - knot & 1) == 1;
    }

    private boolean areTied(int set) {
        for (int knot = 0; knot < KNOTS; knot++) {
            if (inSet(set, knot) && (knot >= rope.count - 1 || !rope.tied[knot])) {
                return false;
            }
        }
        return true;
    }

    private int heaviestPiece(int set) {
        int heaviest = 0;
        int piece = 0;
        for (int place = 0; place < rope.count; place++) {
            boolean goesOn = place > 0 && rope.tied[place - 1] && !inSet(set, place - 1);
            piece = dorm.weight[rope.who[place]] + (goesOn ? piece : 0);
            heaviest = Math.max(heaviest, piece);
        }
        return heaviest;
    }

    private static int knotOfSet(int set, int k) {
        int ahead = 0;
        for (int knot = 0; knot < KNOTS; knot++) {
            if (inSet(set, knot)) {
                if (ahead == k) {
                    return knot;
                }
                ahead++;
            }
        }
        return NONE;
    }

    private int takenBy(int from, int step) {
        int pull = 3 * dorm.weight[rope.who[from]];
        int taken = 0;
        for (int place = from + step; place >= 0 && place < rope.count; place += step) {
            int knot = step > 0 ? place - 1 : place;
            int weight = dorm.weight[rope.who[place]];
            pull -= rope.slack[knot];
            if (!rope.tied[knot] || pull < weight) {
                return taken;
            }
            pull -= weight;
            taken |= 1 << place;
        }
        return taken;
    }

    private boolean isImage(int told) {
        int knots = Math.max(0, rope.count - 1);
        int due = 2 + PER_BOY * rope.count + PER_KNOT * knots + 1;
        if (told != due || onTape(due - 1) != sealOf(tape, due - 1)
                || pairOnTape(0) > LAST_MINUTE) {
            return false;
        }
        int seen = 0;
        for (int place = 0; place < rope.count; place++) {
            int boy = onTape(2 + PER_BOY * place);
            if (!isBoy(boy) || (seen >> boy & 1) == 1 || !isImageOfBoy(boy, 2 + PER_BOY * place)) {
                return false;
            }
            seen |= 1 << boy;
        }
        for (int knot = 0; knot < knots; knot++) {
            int from = 2 + PER_BOY * rope.count + PER_KNOT * knot;
            if (onTape(from) > 1 || onTape(from + 1) > MOST_SLACK) {
                return false;
            }
        }
        return true;
    }

    private boolean isImageOfBoy(int boy, int from) {
        int asleep = onTape(from + 1);
        int dream = onTape(from + 2) - 1;
        int left = onTape(from + 3);
        int caught = onTape(from + 4) - 1;
        if (asleep > 1 || dream >= dorm.dreams || caught >= dorm.dreams
                || pairOnTape(from + 5) > MOST_FELT) {
            return false;
        }
        if (dream == NONE ? left != 0 : left < 1 || left > dorm.lasts[dream]) {
            return false;
        }
        if (dream != NONE && caught != NONE) {
            return false;
        }
        boolean neither = dream == NONE && caught == NONE;
        return neither || (asleep == 1 && !dorm.isGhost(boy));
    }

    /** What a text says. */
    private static final class Dorm {
        int statements;
        int boys;
        int dreams;
        // A NAME is one number, five bits a letter, the first letter lowest.
        final int[] boyName = new int[BOYS];
        final int[] weight = new int[BOYS];
        final int[] depth = new int[BOYS];
        final int[] odds = new int[BOYS];
        final int[] pulls = new int[BOYS];
        final int[] marks = new int[BOYS];
        final int[] dreamName = new int[DREAMS];
        final int[] tug = new int[DREAMS];
        final int[] lasts = new int[DREAMS];
        final int[] passes = new int[DREAMS];
        final int[] dreamOdds = new int[DREAMS];
        final int[] slack = new int[KNOTS];
        final Laws laws = new Laws();

        void empty() {
            statements = 0;
            boys = 0;
            dreams = 0;
            Arrays.fill(slack, 0);
            laws.empty();
        }

        boolean isGhost(int boy) {
            return (marks[boy] & GHOST) != 0;
        }

        boolean isSnorer(int boy) {
            return (marks[boy] & SNORES) != 0;
        }

        boolean isTaken(int name) {
            for (int boy = 0; boy < boys; boy++) {
                if (boyName[boy] == name) {
                    return true;
                }
            }
            for (int dream = 0; dream < dreams; dream++) {
                if (dreamName[dream] == name) {
                    return true;
                }
            }
            return false;
        }
    }

    /** The LAWS: of each its SUM, then its TEST, as code for a stack. */
    private static final class Laws {
        int count;
        private int length;
        private final int[] code = new int[TAPE];
        private final boolean[] isDeep = new boolean[LAWS];
        private final int[] sumAt = new int[LAWS];
        private final int[] testAt = new int[LAWS];
        private final int[] endAt = new int[LAWS];
        private final int[] stack = new int[STACK];
        // What a LAW may ask, of the BOY to whom a TUG comes.
        final int[] asked = new int[ASKED];

        void empty() {
            count = 0;
            length = 0;
        }

        void put(int step) {
            if (length < TAPE) {
                code[length] = step;
                length++;
            }
        }

        void beginSum(boolean deep) {
            if (count < LAWS) {
                isDeep[count] = deep;
                sumAt[count] = length;
            }
        }

        void beginTest() {
            if (count < LAWS) {
                testAt[count] = length;
            }
        }

        void close() {
            if (count < LAWS) {
                endAt[count] = length;
                count++;
            }
        }

        /** The SUM of the first LAW of that kind whose TEST holds, else what it is without: 0 .. most. */
        int first(boolean deep, int without, int most) {
            int sum = without;
            for (int law = 0; law < count; law++) {
                if (isDeep[law] == deep && run(testAt[law], endAt[law]) != 0) {
                    sum = run(sumAt[law], testAt[law]);
                    break;
                }
            }
            return Math.max(0, Math.min(most, sum));
        }

        private int run(int from, int to) {
            int top = 0;
            for (int i = from; i < to && i < TAPE; i++) {
                int it = code[i];
                if (it > DO_NOT) {
                    if (top >= STACK) {
                        return 0;
                    }
                    stack[top] = it >= 0 ? it : asked[-1 - it];
                    top++;
                } else if (it == DO_NOT) {
                    if (top < 1) {
                        return 0;
                    }
                    stack[top - 1] = 1 - stack[top - 1];
                } else {
                    if (top < 2) {
                        return 0;
                    }
                    top--;
                    stack[top - 1] = joined(it, stack[top - 1], stack[top]);
                }
            }
            return top < 1 ? 0 : stack[top - 1];
        }

        private static int joined(int how, int a, int b) {
            int rest = b == 0 ? 0 : a % b;
            if (rest != 0 && (rest < 0) != (b < 0)) {
                rest += b;
            }
            switch (how) {
                case DO_OVER:
                    return b == 0 ? 0 : (a - rest) / b;
                case DO_REST:
                    return rest;
                case DO_LESS:
                    return a < b ? 1 : 0;
                case DO_MORE:
                    return a > b ? 1 : 0;
                case DO_LIKE:
                    return a == b ? 1 : 0;
                case DO_AND:
                    return a & b;
                case DO_OR:
                    return a | b;
                case DO_MIN:
                    return a < b ? a : b;
                case DO_MAX:
                    return a > b ? a : b;
                default:
                    long made = how == DO_TIMES ? (long) a * b : how == DO_PLUS ? (long) a + b : (long) a - b;
                    return made > LIMIT ? LIMIT : made < -LIMIT ? -LIMIT : (int) made;
            }
        }
    }

    /** Reads a text into a Dorm, or tells its first FAULT. */
    private static final class Reader {
        int fault;
        int faultAt = NONE;
        private final int[] ownWords = new int[OWN_COUNT];
        // What is read, one after another: kind, value, first byte; of END and BAD the value is the place of the FAULT.
        private final int[] kinds = new int[TAPE + 1];
        private final int[] values = new int[TAPE + 1];
        private final int[] starts = new int[TAPE + 1];
        private int count;
        private int at;
        // Where the text is put.
        Dorm dorm = new Dorm();
        private int name;
        private int number;

        Reader() {
            int word = 0;
            int letter = 0;
            for (int i = 0; i < OWN_WORDS.length() && word < OWN_COUNT; i++) {
                int sign = OWN_WORDS.charAt(i);
                if (sign == ' ') {
                    word++;
                    letter = 0;
                } else {
                    ownWords[word] |= sign - 'a' + 1 << 5 * letter;
                    letter++;
                }
            }
        }

        boolean read(int[] text, int length) {
            dorm.empty();
            fault = 0;
            faultAt = NONE;
            at = 0;
            scan(text, length);
            for (int told = 0; told <= STATEMENTS; told++) {
                if (kinds[at] == END) {
                    dorm.statements = told;
                    return true;
                }
                if (told == STATEMENTS) {
                    return fails(TOO_MANY);
                }
                boolean good;
                switch (own()) {
                    case WORD_BOY:
                        good = readBoy();
                        break;
                    case WORD_SLACK:
                        good = readSlack();
                        break;
                    case WORD_DREAM:
                        good = readDream();
                        break;
                    case WORD_PASS:
                        good = readLaw(false);
                        break;
                    case WORD_DEEP:
                        good = readLaw(true);
                        break;
                    default:
                        good = fails(WRONG);
                        break;
                }
                if (!good) {
                    return false;
                }
                if (!isSign(';')) {
                    return fails(WRONG);
                }
                step();
            }
            return false;
        }

        // ---- from bytes to words, numbers, signs

        private void scan(int[] text, int length) {
            count = 0;
            int running = END;
            int size = 0;
            for (int p = 0; p < length && p < text.length; p++) {
                int c = text[p];
                int kind = kindOf(c);
                boolean isRun = kind == NAME || kind == NUMBER;
                if (isRun && kind == running) {
                    size++;
                    if (!lengthen(c, size, p)) {
                        return;
                    }
                } else if (kind == BAD || (isRun && running != END)) {
                    add(BAD, p, p);
                    return;
                } else if (kind != END) {
                    add(kind, kind == NAME ? c - 'a' + 1 : kind == NUMBER ? c - '0' : c, p);
                    size = 1;
                }
                running = isRun ? kind : END;
            }
            add(END, length, length);
        }

        // END for a blank: it ends a word, a number.
        private static int kindOf(int c) {
            if (c == ' ' || c == 10) {
                return END;
            }
            if (c >= 'a' && c <= 'z') {
                return NAME;
            }
            if (c >= '0' && c <= '9') {
                return NUMBER;
            }
            return c > 0 && ";[]()<>=+-*/%,".indexOf((char) c) >= 0 ? SIGN : BAD;
        }

        private void add(int kind, int value, int start) {
            if (count <= TAPE) {
                kinds[count] = kind;
                values[count] = value;
                starts[count] = start;
                count++;
            }
        }

        // One more letter, digit of the last word, number; false if it is one too many.
        private boolean lengthen(int c, int size, int p) {
            int last = count - 1;
            if (last < 0) {
                return false;
            }
            boolean isWord = kinds[last] == NAME;
            if (size > (isWord ? LETTERS : DIGITS)) {
                kinds[last] = BAD;
                values[last] = p;
                return false;
            }
            if (isWord) {
                values[last] |= c - 'a' + 1 << 5 * (size - 1);
            } else {
                values[last] = 10 * values[last] + c - '0';
            }
            return true;
        }

        // ---- what stands there

        // Which OWN WORD stands there; NONE without.
        private int own() {
            if (kinds[at] == NAME) {
                for (int w = 0; w < OWN_COUNT; w++) {
                    if (ownWords[w] == values[at]) {
                        return w;
                    }
                }
            }
            return NONE;
        }

        private boolean isSign(char sign) {
            return kinds[at] == SIGN && values[at] == sign;
        }

        private void step() {
            if (at < count - 1) {
                at++;
            }
        }

        private boolean fails(int kind) {
            fault = kind;
            boolean isElsewhere = kind == WRONG && kinds[at] == BAD;
            faultAt = isElsewhere ? values[at] : starts[at];
            return false;
        }

        private boolean needsOwn(int word) {
            if (own() != word) {
                return fails(WRONG);
            }
            step();
            return true;
        }

        private boolean needsNumber(int least, int most) {
            if (kinds[at] != NUMBER) {
                return fails(WRONG);
            }
            number = values[at];
            if (number < least || number > most) {
                return fails(CANNOT_BE);
            }
            step();
            return true;
        }

        private boolean needsName() {
            if (kinds[at] != NAME || own() != NONE) {
                return fails(WRONG);
            }
            name = values[at];
            if (dorm.isTaken(name)) {
                return fails(TWICE);
            }
            step();
            return true;
        }

        // ---- STATEMENTS

        private boolean readBoy() {
            int boy = dorm.boys;
            if (boy >= BOYS) {
                return fails(TOO_MANY);
            }
            step();
            if (!needsName()) {
                return false;
            }
            dorm.boyName[boy] = name;
            if (!needsOwn(WEIGHT) || !needsNumber(1, 99)) {
                return false;
            }
            dorm.weight[boy] = number;
            if (!needsOwn(DEPTH) || !needsNumber(1, 999)) {
                return false;
            }
            dorm.depth[boy] = number;
            if (!needsOwn(WORD_ODDS) || !needsNumber(0, 100)) {
                return false;
            }
            dorm.odds[boy] = number;
            if (!needsOwn(WORD_PULLS) || !needsNumber(0, 99)) {
                return false;
            }
            dorm.pulls[boy] = number;
            dorm.boys++;
            return readMarks(boy);
        }

        private boolean readMarks(int boy) {
            dorm.marks[boy] = 0;
            for (int k = 0; k <= 2; k++) {
                int word = own();
                int mark = word == WORD_SNORES ? SNORES : word == WORD_GHOST ? GHOST : 0;
                if (mark == 0) {
                    return true;
                }
                if ((dorm.marks[boy] & mark) != 0) {
                    return fails(WRONG);
                }
                dorm.marks[boy] |= mark;
                step();
            }
            return true;
        }

        private boolean readSlack() {
            step();
            if (!needsNumber(0, MOST_SLACK)) {
                return false;
            }
            int slack = number;
            if (!needsOwn(WORD_AT) || !needsNumber(0, KNOTS - 1)) {
                return false;
            }
            dorm.slack[number] = slack;
            return true;
        }

        private boolean readDream() {
            int dream = dorm.dreams;
            if (dream >= DREAMS) {
                return fails(TOO_MANY);
            }
            step();
            if (!needsName()) {
                return false;
            }
            dorm.dreamName[dream] = name;
            if (!needsOwn(WORD_TUG) || !needsNumber(1, 999)) {
                return false;
            }
            dorm.tug[dream] = number;
            if (!needsOwn(WORD_LASTS) || !needsNumber(1, 60)) {
                return false;
            }
            dorm.lasts[dream] = number;
            if (!needsOwn(WORD_PASSES) || !needsNumber(1, 999)) {
                return false;
            }
            dorm.passes[dream] = number;
            if (!needsOwn(WORD_ODDS) || !needsNumber(1, 99)) {
                return false;
            }
            dorm.dreamOdds[dream] = number;
            dorm.dreams++;
            return true;
        }

        private boolean readLaw(boolean deep) {
            if (dorm.laws.count >= LAWS) {
                return fails(TOO_MANY);
            }
            step();
            dorm.laws.beginSum(deep);
            if (!readSum(0) || !needsOwn(WORD_WHEN)) {
                return false;
            }
            dorm.laws.beginTest();
            if (!readTest(0)) {
                return false;
            }
            dorm.laws.close();
            return true;
        }

        // ---- TESTS and SUMS; open: how many ( [ are open, which keeps them from going deep

        private boolean readTest(int open) {
            for (int ors = 0; ors <= TAPE; ors++) {
                for (int ands = 0; ands <= TAPE; ands++) {
                    if (!readFact(open)) {
                        return false;
                    }
                    if (ands > 0) {
                        dorm.laws.put(DO_AND);
                    }
                    if (own() != WORD_AND) {
                        break;
                    }
                    step();
                }
                if (ors > 0) {
                    dorm.laws.put(DO_OR);
                }
                if (own() != WORD_OR) {
                    break;
                }
                step();
            }
            return true;
        }

        private boolean readFact(int open) {
            int nots = 0;
            for (; nots <= TAPE && own() == WORD_NOT; nots++) {
                step();
            }
            if (isSign('[')) {
                if (open >= OPEN) {
                    return fails(TOO_MANY);
                }
                step();
                if (!readTest(open + 1)) {
                    return false;
                }
                if (!isSign(']')) {
                    return fails(WRONG);
                }
                step();
            } else if (own() == WORD_ALL) {
                step();
                dorm.laws.put(1);
            } else {
                if (!readSum(open)) {
                    return false;
                }
                int how = isSign('<') ? DO_LESS : isSign('>') ? DO_MORE : isSign('=') ? DO_LIKE : 0;
                if (how == 0) {
                    return fails(WRONG);
                }
                step();
                if (!readSum(open)) {
                    return false;
                }
                dorm.laws.put(how);
            }
            if (nots % 2 == 1) {
                dorm.laws.put(DO_NOT);
            }
            return true;
        }

        private boolean readSum(int open) {
            int sum = 0;
            for (int products = 0; products <= TAPE; products++) {
                int product = 0;
                for (int parts = 0; parts <= TAPE; parts++) {
                    if (!readPart(open)) {
                        return false;
                    }
                    if (product != 0) {
                        dorm.laws.put(product);
                    }
                    product = isSign('*') ? DO_TIMES : isSign('/') ? DO_OVER
                        : isSign('%') ? DO_REST : 0;
                    if (product == 0) {
                        break;
                    }
                    step();
                }
                if (sum != 0) {
                    dorm.laws.put(sum);
                }
                sum = isSign('+') ? DO_PLUS : isSign('-') ? DO_MINUS : 0;
                if (sum == 0) {
                    break;
                }
                step();
            }
            return true;
        }

        private boolean readPart(int open) {
            if (kinds[at] == NUMBER) {
                dorm.laws.put(values[at]);
                step();
                return true;
            }
            int word = own();
            if (word != NONE && word < ASKED) {
                dorm.laws.put(-1 - word);
                step();
                return true;
            }
            boolean isPair = word == WORD_MIN || word == WORD_MAX;
            if (isPair) {
                step();
            }
            if (!isSign('(')) {
                return fails(WRONG);
            }
            if (open >= OPEN) {
                return fails(TOO_MANY);
            }
            step();
            if (!readSum(open + 1)) {
                return false;
            }
            if (isPair) {
                if (!isSign(',')) {
                    return fails(WRONG);
                }
                step();
                if (!readSum(open + 1)) {
                    return false;
                }
                dorm.laws.put(word == WORD_MIN ? DO_MIN : DO_MAX);
            }
            if (!isSign(')')) {
                return fails(WRONG);
            }
            step();
            return true;
        }
    }

    /** How all lies and sleeps; BOYS keep what they have by their numbers, so only who changes with PLACES. */
    private static final class Rope {
        int count;
        int minute;
        final int[] who = new int[BOYS];
        final boolean[] asleep = new boolean[BOYS];
        final int[] dream = new int[BOYS];
        final int[] left = new int[BOYS];
        final int[] caught = new int[BOYS];
        // The ROOT of the TUG by which he is CAUGHT; no BOY: what he begins is its own ROOT.
        final int[] rootMinute = new int[BOYS];
        final int[] rootBoy = new int[BOYS];
        final int[] felt = new int[BOYS];
        final int[] greatest = new int[BOYS];
        final int[] together = new int[BOYS];
        final boolean[] tied = new boolean[KNOTS];
        final int[] slack = new int[KNOTS];
        // All TUGS so far; the last ones are told, in a ring.
        int tugs;
        private final int[] ring = new int[TOLD];

        void begin(Dorm dorm) {
            count = dorm.boys;
            minute = 0;
            tugs = 0;
            for (int boy = 0; boy < BOYS; boy++) {
                who[boy] = boy;
                asleep[boy] = true;
                dream[boy] = NONE;
                left[boy] = 0;
                caught[boy] = NONE;
                rootMinute[boy] = 0;
                rootBoy[boy] = NONE;
                felt[boy] = 0;
                greatest[boy] = 0;
                together[boy] = 0;
            }
            for (int knot = 0; knot < KNOTS; knot++) {
                tied[knot] = true;
                slack[knot] = dorm.slack[knot];
            }
        }

        void take(Rope from) {
            count = from.count;
            minute = from.minute;
            tugs = from.tugs;
            System.arraycopy(from.who, 0, who, 0, BOYS);
            System.arraycopy(from.asleep, 0, asleep, 0, BOYS);
            System.arraycopy(from.dream, 0, dream, 0, BOYS);
            System.arraycopy(from.left, 0, left, 0, BOYS);
            System.arraycopy(from.caught, 0, caught, 0, BOYS);
            System.arraycopy(from.rootMinute, 0, rootMinute, 0, BOYS);
            System.arraycopy(from.rootBoy, 0, rootBoy, 0, BOYS);
            System.arraycopy(from.felt, 0, felt, 0, BOYS);
            System.arraycopy(from.greatest, 0, greatest, 0, BOYS);
            System.arraycopy(from.together, 0, together, 0, BOYS);
            takeKnots(from);
            System.arraycopy(from.ring, 0, ring, 0, TOLD);
        }

        void takeKnots(Rope from) {
            System.arraycopy(from.tied, 0, tied, 0, KNOTS);
            System.arraycopy(from.slack, 0, slack, 0, KNOTS);
        }

        int placeOf(int boy) {
            for (int place = 0; place < count; place++) {
                if (who[place] == boy) {
                    return place;
                }
            }
            return NONE;
        }

        int awake() {
            int awake = 0;
            for (int boy = 0; boy < count; boy++) {
                awake += asleep[boy] ? 0 : 1;
            }
            return awake;
        }

        void change(int first, int second) {
            int boy = who[first];
            who[first] = who[second];
            who[second] = boy;
        }

        void getsUp(int boy) {
            asleep[boy] = false;
            dream[boy] = NONE;
            left[boy] = 0;
            caught[boy] = NONE;
        }

        void feelsForce(int boy, int force) {
            felt[boy]++;
            greatest[boy] = Math.max(greatest[boy], force);
            together[boy] = Math.min(LIMIT, together[boy] + force);
        }

        int told() {
            return Math.min(tugs, TOLD);
        }

        int toldTug(int k) {
            return ring[(tugs - told() + k) % TOLD];
        }

        void tell(int boy, int dream, int rootMinute, int rootBoy) {
            ring[tugs % TOLD] = minute | boy << TUG_BOY | dream << TUG_DREAM
                | rootMinute << TUG_ROOT_MINUTE | rootBoy << TUG_ROOT_BOY;
            tugs++;
        }
    }

    /** What a TUG would do, PLACE by PLACE: it meets no BOY twice, so what it does to one does not change its way. */
    private static final class Tug {
        final int[] came = new int[BOYS];
        // Bits by PLACES.
        int woken;

        void goes(Dorm dorm, Rope rope, int from, int force) {
            Arrays.fill(came, 0);
            woken = 0;
            if (from < 0 || from >= rope.count) {
                return;
            }
            int left = force;
            for (int place = from + 1; place < rope.count && rope.tied[place - 1]; place++) {
                left -= rope.slack[place - 1];
                if (left <= 0) {
                    break;
                }
                left = passedOn(dorm, rope, place, left);
            }
            left = force;
            for (int place = from - 1; place >= 0 && rope.tied[place]; place--) {
                left -= rope.slack[place];
                if (left <= 0) {
                    break;
                }
                left = passedOn(dorm, rope, place, left);
            }
        }

        private int passedOn(Dorm dorm, Rope rope, int place, int force) {
            came[place] = force;
            int boy = rope.who[place];
            if (dorm.isGhost(boy)) {
                return force;
            }
            if (!rope.asleep[boy]) {
                return 0;
            }
            if (dorm.laws.count > 0) {
                look(dorm, rope, place, force);
            }
            if (force > dorm.laws.first(true, dorm.depth[boy], MOST_FORCE)) {
                woken |= 1 << place;
                return 0;
            }
            return dorm.laws.first(false, force - dorm.weight[boy], force);
        }

        /** Tells the LAWS what they may ask, if a TUG comes to that PLACE with that force. */
        void look(Dorm dorm, Rope rope, int place, int force) {
            int boy = rope.who[place];
            int beside = 0;
            if (place > 0 && rope.tied[place - 1] && dorm.isSnorer(rope.who[place - 1])) {
                beside++;
            }
            if (place + 1 < rope.count && rope.tied[place] && dorm.isSnorer(rope.who[place + 1])) {
                beside++;
            }
            int[] asked = dorm.laws.asked;
            asked[FORCE] = force;
            asked[WEIGHT] = dorm.weight[boy];
            asked[DEPTH] = dorm.depth[boy];
            asked[PLACE] = place;
            asked[MINUTE] = rope.minute;
            asked[BESIDE] = beside;
            asked[FELT] = rope.felt[boy];
        }
    }

    /** How MINUTES go by, and the DRAWS. */
    private static final class Night {
        int seed = 1;
        private final Tug tug = new Tug();

        boolean canBegin(Dorm dorm, Rope rope, int boy) {
            return rope.asleep[boy] && !dorm.isGhost(boy) && rope.dream[boy] == NONE;
        }

        /** He begins that DREAM, as one who is CAUGHT or not: how many wake by its TUG. */
        int begins(Dorm dorm, Rope rope, int boy, int dream, boolean isCaught) {
            boolean hasRoot = isCaught && rope.rootBoy[boy] != NONE;
            int rootMinute = hasRoot ? rope.rootMinute[boy] : rope.minute;
            int rootBoy = hasRoot ? rope.rootBoy[boy] : boy;
            rope.caught[boy] = NONE;
            rope.dream[boy] = dream;
            rope.left[boy] = dorm.lasts[dream];
            rope.tell(boy, dream, rootMinute, rootBoy);
            tug.goes(dorm, rope, rope.placeOf(boy), dorm.tug[dream]);
            for (int place = 0; place < rope.count; place++) {
                int force = tug.came[place];
                int other = rope.who[place];
                if (force > 0) {
                    rope.feelsForce(other, force);
                    if ((tug.woken >> place & 1) == 1) {
                        rope.getsUp(other);
                    } else if (force >= dorm.passes[dream] && rope.caught[other] == NONE
                            && canBegin(dorm, rope, other)) {
                        rope.caught[other] = dream;
                        rope.rootMinute[other] = rootMinute;
                        rope.rootBoy[other] = rootBoy;
                    }
                }
            }
            return Integer.bitCount(tug.woken);
        }

        void minute(Dorm dorm, Rope rope) {
            for (int place = 0; place < rope.count; place++) {
                int boy = rope.who[place];
                int dream = rope.caught[boy];
                if (dream != NONE && canBegin(dorm, rope, boy)) {
                    begins(dorm, rope, boy, dream, true);
                }
                rope.caught[boy] = NONE;
            }
            for (int place = 0; place < rope.count; place++) {
                int boy = rope.who[place];
                if (canBegin(dorm, rope, boy) && draw(100) < dorm.odds[boy] && dorm.dreams > 0) {
                    begins(dorm, rope, boy, drawnDream(dorm), false);
                }
            }
            for (int boy = 0; boy < rope.count; boy++) {
                if (rope.dream[boy] != NONE) {
                    rope.left[boy]--;
                    if (rope.left[boy] <= 0) {
                        rope.dream[boy] = NONE;
                        rope.left[boy] = 0;
                    }
                }
            }
            rope.minute++;
        }

        private int drawnDream(Dorm dorm) {
            int all = 0;
            for (int dream = 0; dream < dorm.dreams; dream++) {
                all += dorm.dreamOdds[dream];
            }
            int drawn = draw(all);
            int ahead = 0;
            for (int dream = 0; dream < dorm.dreams; dream++) {
                ahead += dorm.dreamOdds[dream];
                if (ahead > drawn) {
                    return dream;
                }
            }
            return 0;
        }

        private int draw(int m) {
            seed = (int) ((1103515245L * seed + 12345L) & 2147483647L);
            return m < 1 ? 0 : seed / 64 % m;
        }
    }

    /** The ropes as they were ahead of the last ACTS. */
    private static final class Acts {
        int held;
        private int next;
        private final Rope[] ropes = new Rope[ACTS];

        Acts() {
            for (int i = 0; i < ACTS; i++) {
                ropes[i] = new Rope();
            }
        }

        void forget() {
            held = 0;
        }

        void keep(Rope rope) {
            Rope copy = ropes[next];
            if (copy != null) {
                copy.take(rope);
            }
            next = (next + 1) % ACTS;
            held = Math.min(ACTS, held + 1);
        }

        boolean takeBack(Rope rope) {
            if (held == 0) {
                return false;
            }
            held--;
            next = (next + ACTS - 1) % ACTS;
            Rope copy = ropes[next];
            if (copy != null) {
                rope.take(copy);
            }
            return true;
        }
    }

    /** BADNESS, and orders that make it less. */
    private static final class Orders {
        int bestBad;
        final int[] best = new int[BOYS];
        int exchangedBad;
        int exchanges;
        final int[] exchanged = new int[BOYS];
        int twoBad;
        int twoBits;
        // Of which state each search was made.
        private int bestOf = NONE;
        private int exchangedOf = NONE;
        private int twoOf = NONE;
        // A rope on which all are asleep, and nothing was FELT.
        private final Rope bare = new Rope();
        private final Tug tug = new Tug();

        private void begin(Dorm dorm, Rope now) {
            bare.begin(dorm);
            bare.takeKnots(now);
        }

        private int badness(Dorm dorm) {
            int bad = 0;
            for (int place = 0; place < bare.count; place++) {
                int boy = bare.who[place];
                int odds = dorm.isGhost(boy) ? 0 : dorm.odds[boy];
                for (int dream = 0; odds > 0 && dream < dorm.dreams; dream++) {
                    tug.goes(dorm, bare, place, dorm.tug[dream]);
                    bad += odds * dorm.dreamOdds[dream] * Integer.bitCount(tug.woken);
                }
            }
            return bad;
        }

        int badAsItIs(Dorm dorm, Rope now) {
            begin(dorm, now);
            System.arraycopy(now.who, 0, bare.who, 0, BOYS);
            return badness(dorm);
        }

        void findBest(Dorm dorm, Rope now, int state) {
            if (bestOf == state) {
                return;
            }
            bestOf = state;
            begin(dorm, now);
            bestBad = NONE;
            for (int i = 0; i < ORDERS; i++) {
                int bad = badness(dorm);
                if (bestBad == NONE || bad < bestBad) {
                    bestBad = bad;
                    System.arraycopy(bare.who, 0, best, 0, BOYS);
                }
                if (!nextOrder(bare.who, bare.count)) {
                    break;
                }
            }
        }

        // The next order by numbers; false behind the last.
        private static boolean nextOrder(int[] who, int count) {
            int turn = count - 2;
            while (turn >= 0 && who[turn] > who[turn + 1]) {
                turn--;
            }
            if (turn < 0) {
                return false;
            }
            int other = count - 1;
            while (other > turn && who[other] < who[turn]) {
                other--;
            }
            int boy = who[turn];
            who[turn] = who[other];
            who[other] = boy;
            for (int low = turn + 1, high = count - 1; low < high; low++, high--) {
                boy = who[low];
                who[low] = who[high];
                who[high] = boy;
            }
            return true;
        }

        void findExchanges(Dorm dorm, Rope now, int state) {
            if (exchangedOf == state) {
                return;
            }
            exchangedOf = state;
            begin(dorm, now);
            System.arraycopy(now.who, 0, bare.who, 0, BOYS);
            exchangedBad = badness(dorm);
            exchanges = 0;
            for (int round = 0; round < ROUNDS; round++) {
                int least = exchangedBad;
                int one = NONE;
                int other = NONE;
                for (int low = 0; low < bare.count; low++) {
                    for (int high = low + 1; high < bare.count; high++) {
                        bare.change(low, high);
                        int bad = badness(dorm);
                        bare.change(low, high);
                        if (bad < least) {
                            least = bad;
                            one = low;
                            other = high;
                        }
                    }
                }
                if (one == NONE) {
                    break;
                }
                bare.change(one, other);
                exchangedBad = least;
                exchanges++;
            }
            System.arraycopy(bare.who, 0, exchanged, 0, BOYS);
        }

        void findTwo(Dorm dorm, Rope now, int state) {
            if (twoOf == state) {
                return;
            }
            twoOf = state;
            begin(dorm, now);
            twoBad = NONE;
            for (int bits = 0; bits < 1 << now.count; bits++) {
                if ((bits >> now.who[0] & 1) == 1) {
                    continue;
                }
                int bad = 0;
                for (int second = 0; second <= 1; second++) {
                    bare.count = 0;
                    for (int place = 0; place < now.count; place++) {
                        if ((bits >> now.who[place] & 1) == second) {
                            bare.who[bare.count] = now.who[place];
                            bare.count++;
                        }
                    }
                    bad += badness(dorm);
                }
                if (twoBad == NONE || bad < twoBad) {
                    twoBad = bad;
                    twoBits = bits;
                }
            }
        }
    }
}
