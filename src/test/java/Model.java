import java.util.ArrayList;
import java.util.HashMap;
import java.util.List;
import java.util.Map;

/**
 * The document told a second time, as plainly as Java lets it be and with nothing of SleepRope in it: AgainstModel
 * compares the two. It keeps trees for LAWS, objects for BOYS, and searches by trying all.
 */
final class Model {
    static final class Fault extends RuntimeException {
        private static final long serialVersionUID = 1L;
        final int kind;
        final int place;

        Fault(int kind, int place) {
            this.kind = kind;
            this.place = place;
        }
    }

    interface Sum {
        long of(Map<String, Integer> facts);
    }

    interface Test {
        boolean holds(Map<String, Integer> facts);
    }

    record Law(boolean deep, Sum sum, Test test) {
    }

    static final class Boy {
        String name;
        int number;
        int weight;
        int depth;
        int odds;
        int pulls;
        boolean snores;
        boolean ghost;
        boolean asleep = true;
        int dream = -1;
        int left;
        int caught = -1;
        int[] root;
        int felt;
        int greatest;
        int together;

        Boy copy() {
            Boy b = new Boy();
            b.name = name;
            b.number = number;
            b.weight = weight;
            b.depth = depth;
            b.odds = odds;
            b.pulls = pulls;
            b.snores = snores;
            b.ghost = ghost;
            b.asleep = asleep;
            b.dream = dream;
            b.left = left;
            b.caught = caught;
            b.root = root;
            b.felt = felt;
            b.greatest = greatest;
            b.together = together;
            return b;
        }

        boolean canBegin() {
            return asleep && !ghost && dream < 0;
        }
    }

    record Dream(String name, int tug, int lasts, int passes, int odds) {
    }

    /** All that an ACT can change. */
    static final class World {
        List<Boy> places = new ArrayList<>();
        boolean[] tied = new boolean[11];
        int[] slack = new int[11];
        int minute;
        List<int[]> tugs = new ArrayList<>();

        World copy() {
            World w = new World();
            for (Boy b : places) {
                w.places.add(b.copy());
            }
            w.tied = tied.clone();
            w.slack = slack.clone();
            w.minute = minute;
            w.tugs = new ArrayList<>(tugs);
            return w;
        }

        Boy boy(int number) {
            for (Boy b : places) {
                if (b.number == number) {
                    return b;
                }
            }
            return null;
        }
    }

    /** What one TUG would do. */
    static final class Effect {
        int[] came = new int[12];
        List<Integer> woken = new ArrayList<>();
    }

    private static final List<String> OWN = List.of("boy", "weight", "depth", "odds", "pulls", "snores", "ghost",
        "slack", "at", "dream", "tug", "lasts", "passes", "pass", "deep", "when", "or", "and", "not", "all", "force",
        "place", "minute", "beside", "felt", "min", "max");
    private static final List<String> ASKED = List.of("force", "weight", "depth", "place", "minute", "beside", "felt");

    private final List<Integer> tape = new ArrayList<>();
    private List<Dream> dreams = new ArrayList<>();
    private List<Law> laws = new ArrayList<>();
    private World world = new World();
    private final List<World> acts = new ArrayList<>();
    private long seed = 1;
    private int[] heard;
    private int fault;
    private int faultPlace = -1;
    private final int[] refused = new int[6];
    private List<Integer> octets = new ArrayList<>();

    // ---- the text

    private String text;
    private int pos;
    private int open;

    private void blanks() {
        while (pos < text.length() && (text.charAt(pos) == ' ' || text.charAt(pos) == '\n')) {
            pos++;
        }
    }

    private static boolean letter(char c) {
        return c >= 'a' && c <= 'z';
    }

    private static boolean digit(char c) {
        return c >= '0' && c <= '9';
    }

    /** What stands at pos: a word, a number, a sign, "" at the end. Nothing is taken. */
    private String peek() {
        int before = pos;
        blanks();
        if (pos >= text.length()) {
            return "";
        }
        char c = text.charAt(pos);
        boolean word = letter(c);
        if (!word && !digit(c)) {
            return text.substring(pos, pos + 1);
        }
        if (before == pos && pos > 0 && (letter(text.charAt(pos - 1)) || digit(text.charAt(pos - 1)))) {
            throw new Fault(1, pos);
        }
        int to = pos;
        while (to < text.length() && (word ? letter(text.charAt(to)) : digit(text.charAt(to)))) {
            to++;
            if (to - pos > (word ? 6 : 4)) {
                throw new Fault(1, to - 1);
            }
        }
        return text.substring(pos, to);
    }

    private boolean take(String what) {
        if (peek().equals(what)) {
            pos += what.length();
            return true;
        }
        return false;
    }

    private void need(String what) {
        if (!take(what)) {
            throw new Fault(1, pos);
        }
    }

    private int number(int least, int most) {
        String n = peek();
        if (n.isEmpty() || !digit(n.charAt(0))) {
            throw new Fault(1, pos);
        }
        int value = Integer.parseInt(n);
        if (value < least || value > most) {
            throw new Fault(4, pos);
        }
        pos += n.length();
        return value;
    }

    private String name(List<String> names) {
        String n = peek();
        if (n.isEmpty() || !letter(n.charAt(0)) || OWN.contains(n)) {
            throw new Fault(1, pos);
        }
        if (names.contains(n)) {
            throw new Fault(2, pos);
        }
        names.add(n);
        pos += n.length();
        return n;
    }

    int dorm() {
        StringBuilder s = new StringBuilder();
        for (int b : tape) {
            s.append((char) b);
        }
        tape.clear();
        text = s.toString();
        pos = 0;
        World told = new World();
        List<Dream> toldDreams = new ArrayList<>();
        List<Law> toldLaws = new ArrayList<>();
        int statements = 0;
        try {
            List<String> names = new ArrayList<>();
            java.util.Arrays.fill(told.tied, true);
            for (blanks(); pos < text.length(); blanks()) {
                if (statements == 90) {
                    throw new Fault(5, pos);
                }
                statement(told, toldDreams, toldLaws, names);
                need(";");
                statements++;
            }
        } catch (Fault f) {
            fault = f.kind;
            faultPlace = f.place;
            refused[1]++;
            return -1;
        }
        fault = 0;
        faultPlace = -1;
        world = told;
        dreams = toldDreams;
        laws = toldLaws;
        acts.clear();
        heard = null;
        return statements;
    }

    private void statement(World told, List<Dream> toldDreams, List<Law> toldLaws, List<String> names) {
        int at;
        switch (peek()) {
            case "boy" -> {
                if (told.places.size() == 12) {
                    throw new Fault(5, pos);
                }
                need("boy");
                Boy b = new Boy();
                b.number = told.places.size();
                b.name = name(names);
                need("weight");
                b.weight = number(1, 99);
                need("depth");
                b.depth = number(1, 999);
                need("odds");
                b.odds = number(0, 100);
                need("pulls");
                b.pulls = number(0, 99);
                for (boolean more = true; more;) {
                    if (!b.snores && take("snores")) {
                        b.snores = true;
                    } else if (!b.ghost && take("ghost")) {
                        b.ghost = true;
                    } else {
                        more = false;
                    }
                }
                told.places.add(b);
            }
            case "slack" -> {
                need("slack");
                int slack = number(0, 99);
                need("at");
                at = number(0, 10);
                told.slack[at] = slack;
            }
            case "dream" -> {
                if (toldDreams.size() == 6) {
                    throw new Fault(5, pos);
                }
                need("dream");
                String n = name(names);
                need("tug");
                int tug = number(1, 999);
                need("lasts");
                int lasts = number(1, 60);
                need("passes");
                int passes = number(1, 999);
                need("odds");
                toldDreams.add(new Dream(n, tug, lasts, passes, number(1, 99)));
            }
            case "pass", "deep" -> {
                if (toldLaws.size() == 8) {
                    throw new Fault(5, pos);
                }
                boolean deep = !take("pass");
                if (deep) {
                    need("deep");
                }
                open = 0;
                Sum sum = sum();
                need("when");
                toldLaws.add(new Law(deep, sum, test()));
            }
            default -> throw new Fault(1, pos);
        }
    }

    private void opened(String sign) {
        if (peek().equals(sign) && open == 8) {
            throw new Fault(5, pos);
        }
        need(sign);
        open++;
    }

    private void closed(String sign) {
        need(sign);
        open--;
    }

    private Test test() {
        Test first = both();
        while (take("or")) {
            Test left = first;
            Test right = both();
            first = f -> left.holds(f) || right.holds(f);
        }
        return first;
    }

    private Test both() {
        Test first = fact();
        while (take("and")) {
            Test left = first;
            Test right = fact();
            first = f -> left.holds(f) && right.holds(f);
        }
        return first;
    }

    private Test fact() {
        if (take("not")) {
            Test it = fact();
            return f -> !it.holds(f);
        }
        if (take("all")) {
            return f -> true;
        }
        if (peek().equals("[")) {
            opened("[");
            Test it = test();
            closed("]");
            return it;
        }
        Sum left = sum();
        if (take("<")) {
            Sum right = sum();
            return f -> left.of(f) < right.of(f);
        }
        if (take(">")) {
            Sum right = sum();
            return f -> left.of(f) > right.of(f);
        }
        need("=");
        Sum right = sum();
        return f -> left.of(f) == right.of(f);
    }

    private static long kept(long n) {
        return Math.max(-1_000_000, Math.min(1_000_000, n));
    }

    private Sum sum() {
        Sum first = product();
        while (true) {
            Sum left = first;
            if (take("+")) {
                Sum right = product();
                first = f -> kept(left.of(f) + right.of(f));
            } else if (take("-")) {
                Sum right = product();
                first = f -> kept(left.of(f) - right.of(f));
            } else {
                return first;
            }
        }
    }

    private Sum product() {
        Sum first = part();
        while (true) {
            Sum left = first;
            if (take("*")) {
                Sum right = part();
                first = f -> kept(left.of(f) * right.of(f));
            } else if (take("/")) {
                Sum right = part();
                first = f -> right.of(f) == 0 ? 0 : (long) Math.floor((double) left.of(f) / right.of(f));
            } else if (take("%")) {
                Sum right = part();
                first = f -> right.of(f) == 0 ? 0 : Math.floorMod(left.of(f), right.of(f));
            } else {
                return first;
            }
        }
    }

    private Sum part() {
        String it = peek();
        if (ASKED.contains(it)) {
            need(it);
            return f -> f.get(it);
        }
        if (!it.isEmpty() && digit(it.charAt(0))) {
            int n = number(0, 9999);
            return f -> n;
        }
        if (it.equals("min") || it.equals("max")) {
            need(it);
            opened("(");
            Sum left = sum();
            need(",");
            Sum right = sum();
            closed(")");
            return f -> it.equals("min") ? Math.min(left.of(f), right.of(f)) : Math.max(left.of(f), right.of(f));
        }
        opened("(");
        Sum inner = sum();
        closed(")");
        return inner;
    }

    // ---- TUGS, DREAMS, MINUTES

    private boolean tiedTo(World w, int place, int other) {
        return other >= 0 && other < w.places.size() && w.tied[Math.min(place, other)];
    }

    private Map<String, Integer> facts(World w, int place, int force) {
        Boy b = w.places.get(place);
        int beside = 0;
        for (int other = place - 1; other <= place + 1; other += 2) {
            beside += tiedTo(w, place, other) && w.places.get(other).snores ? 1 : 0;
        }
        Map<String, Integer> f = new HashMap<>();
        f.put("force", force);
        f.put("weight", b.weight);
        f.put("depth", b.depth);
        f.put("place", place);
        f.put("minute", w.minute);
        f.put("beside", beside);
        f.put("felt", b.felt);
        return f;
    }

    private long byLaw(World w, int place, int force, boolean deep, long without, int most) {
        Map<String, Integer> f = facts(w, place, force);
        for (Law law : laws) {
            if (law.deep() == deep && law.test().holds(f)) {
                return Math.max(0, Math.min(most, law.sum().of(f)));
            }
        }
        return Math.max(0, without);
    }

    private long deep(World w, int place, int force) {
        return byLaw(w, place, force, true, w.places.get(place).depth, 9999);
    }

    private long passed(World w, int place, int force) {
        Boy b = w.places.get(place);
        return b.ghost ? force : byLaw(w, place, force, false, force - b.weight, force);
    }

    private Effect effect(World w, int from, int force) {
        Effect e = new Effect();
        for (int step = 1; step >= -1; step -= 2) {
            long f = force;
            int place = from;
            while (tiedTo(w, place, place + step)) {
                f -= w.slack[Math.min(place, place + step)];
                place += step;
                if (f <= 0) {
                    break;
                }
                Boy b = w.places.get(place);
                e.came[place] = (int) f;
                boolean awake = !b.asleep;
                if (b.asleep && !b.ghost && f > deep(w, place, (int) f)) {
                    e.woken.add(place);
                    awake = true;
                }
                f = b.ghost ? f : awake ? 0 : passed(w, place, (int) f);
                if (f <= 0) {
                    break;
                }
            }
        }
        return e;
    }

    private int begins(World w, Boy b, int dream, int[] root) {
        b.caught = -1;
        b.dream = dream;
        b.left = dreams.get(dream).lasts();
        int[] its = root == null ? new int[] {w.minute, b.number} : root;
        w.tugs.add(new int[] {w.minute, b.number, dream, its[0], its[1]});
        Effect e = effect(w, w.places.indexOf(b), dreams.get(dream).tug());
        for (int place = 0; place < w.places.size(); place++) {
            int force = e.came[place];
            Boy other = w.places.get(place);
            if (force == 0) {
                continue;
            }
            other.felt++;
            other.greatest = Math.max(other.greatest, force);
            other.together = Math.min(1_000_000, other.together + force);
            if (e.woken.contains(place)) {
                wakesUp(other);
            } else if (force >= dreams.get(dream).passes() && other.canBegin() && other.caught < 0) {
                other.caught = dream;
                other.root = its;
            }
        }
        return e.woken.size();
    }

    private static void wakesUp(Boy b) {
        b.asleep = false;
        b.dream = -1;
        b.left = 0;
        b.caught = -1;
    }

    private long draw(int m) {
        seed = (1103515245L * seed + 12345L) % 2147483648L;
        return seed / 64 % m;
    }

    private void minute(World w) {
        for (Boy b : w.places) {
            if (b.caught >= 0) {
                begins(w, b, b.caught, b.root);
            }
        }
        for (Boy b : w.places) {
            if (b.canBegin() && draw(100) < b.odds && !dreams.isEmpty()) {
                int all = 0;
                for (Dream d : dreams) {
                    all += d.odds();
                }
                long x = draw(all);
                int k = 0;
                for (long ahead = dreams.get(0).odds(); ahead <= x; ahead += dreams.get(k).odds()) {
                    k++;
                }
                begins(w, b, k, null);
            }
        }
        for (Boy b : w.places) {
            if (b.dream >= 0 && --b.left == 0) {
                b.dream = -1;
            }
        }
        w.minute++;
    }

    // ---- the calls

    private int refuse(int kind) {
        refused[kind]++;
        return -1;
    }

    private void act() {
        acts.add(world.copy());
        if (acts.size() > 20) {
            acts.remove(0);
        }
    }

    private boolean place(int p) {
        return p >= 0 && p < world.places.size();
    }

    private boolean isKnot(int k) {
        return k >= 0 && k < world.places.size() - 1;
    }

    private boolean isDream(int d) {
        return d >= 0 && d < dreams.size();
    }

    int feed(int... five) {
        if (tape.size() + 20 > 1600) {
            return refuse(0);
        }
        for (int n : five) {
            for (int k = 3; k >= 0; k--) {
                tape.add(n >>> 8 * k & 255);
            }
        }
        return tape.size();
    }

    boolean end(int n) {
        if (n < 0 || n > tape.size()) {
            refuse(0);
            return false;
        }
        tape.subList(n, tape.size()).clear();
        return true;
    }

    int fault(int what) {
        return what == 0 ? fault : what == 1 ? faultPlace : -1;
    }

    private List<Integer> pieces(World w, List<Integer> cuts) {
        List<Integer> weights = new ArrayList<>();
        for (int p = 0; p < w.places.size(); p++) {
            int weight = w.places.get(p).weight;
            if (p > 0 && w.tied[p - 1] && !cuts.contains(p - 1)) {
                weight += weights.remove(weights.size() - 1);
            }
            weights.add(weight);
        }
        return weights;
    }

    private List<Integer> tiedKnots() {
        List<Integer> tied = new ArrayList<>();
        for (int k = 0; k < world.places.size() - 1; k++) {
            if (world.tied[k]) {
                tied.add(k);
            }
        }
        return tied;
    }

    int has(int what) {
        List<Boy> all = world.places;
        return (int) switch (what) {
            case 0 -> all.size();
            case 1 -> dreams.size();
            case 2 -> laws.size();
            case 3 -> tiedKnots().size();
            case 4 -> world.minute;
            case 5 -> all.stream().filter(b -> b.asleep).count();
            case 6 -> all.stream().filter(b -> b.dream >= 0).count();
            case 7 -> all.stream().filter(b -> b.caught >= 0).count();
            case 8 -> Math.min(200, world.tugs.size());
            case 9 -> acts.size();
            case 10 -> pieces(world, List.of()).size();
            case 11 -> seed;
            default -> -1;
        };
    }

    int letter(int kind, int which, int k) {
        String n = kind == 0 && place(which) ? world.boy(which).name
            : kind == 1 && isDream(which) ? dreams.get(which).name() : null;
        return n == null || k < 0 || k > 5 ? -1 : k < n.length() ? n.charAt(k) - 96 : 0;
    }

    int boy(int boy, int what) {
        Boy b = world.boy(boy);
        if (b == null) {
            return -1;
        }
        return switch (what) {
            case 0 -> b.weight;
            case 1 -> b.depth;
            case 2 -> b.odds;
            case 3 -> b.pulls;
            case 4 -> (b.snores ? 1 : 0) + (b.ghost ? 2 : 0);
            case 5 -> world.places.indexOf(b);
            case 6 -> b.asleep ? 1 : 0;
            case 7 -> b.dream;
            case 8 -> b.left;
            case 9 -> b.caught;
            case 10 -> b.felt;
            case 11 -> b.greatest;
            case 12 -> b.together;
            default -> -1;
        };
    }

    int at(int p) {
        return place(p) ? world.places.get(p).number : -1;
    }

    private int strain(int k) {
        if (!isKnot(k) || !world.tied[k]) {
            return 0;
        }
        Boy above = world.places.get(k + 1);
        int more = isKnot(k + 1) ? Math.max(0, strain(k + 1) - world.slack[k + 1]) : 0;
        return (above.asleep ? above.pulls : 0) + more;
    }

    int knot(int k, int what) {
        if (!isKnot(k)) {
            return -1;
        }
        return what == 0 ? (world.tied[k] ? 1 : 0) : what == 1 ? world.slack[k] : what == 2 ? strain(k) : -1;
    }

    int dream(int d, int what) {
        if (!isDream(d)) {
            return -1;
        }
        Dream it = dreams.get(d);
        return switch (what) {
            case 0 -> it.tug();
            case 1 -> it.lasts();
            case 2 -> it.passes();
            case 3 -> it.odds();
            case 4 -> (int) world.places.stream().filter(b -> b.dream == d).count();
            default -> -1;
        };
    }

    int tug(int k, int what) {
        int from = Math.max(0, world.tugs.size() - 200);
        if (k < 0 || k >= world.tugs.size() - from || what < 0 || what > 4) {
            return -1;
        }
        return world.tugs.get(from + k)[what];
    }

    int law(int p, int force, boolean passed) {
        if (!place(p) || force < 1 || force > 9999) {
            return -1;
        }
        return (int) (passed ? passed(world, p, force) : deep(world, p, force));
    }

    int go(int n) {
        if (n < 1 || n > 99 || world.places.isEmpty() || world.minute == 999) {
            return refuse(2);
        }
        act();
        int before = world.tugs.size();
        for (int i = 0; i < n && world.minute < 999; i++) {
            minute(world);
        }
        return world.tugs.size() - before;
    }

    int dreams(int boy, int dream) {
        Boy b = world.boy(boy);
        if (b == null || !isDream(dream) || !b.canBegin()) {
            return refuse(2);
        }
        act();
        return begins(world, b, dream, null);
    }

    boolean wake(int boy, boolean is) {
        Boy b = world.boy(boy);
        if (b == null || b.asleep != is) {
            refuse(2);
            return false;
        }
        act();
        if (is) {
            wakesUp(b);
        }
        b.asleep = !is;
        return true;
    }

    boolean tie(int k, boolean is) {
        if (!isKnot(k) || world.tied[k] == is) {
            refuse(3);
            return false;
        }
        act();
        world.tied[k] = is;
        return true;
    }

    int slack(int k, int slack) {
        if (!isKnot(k) || slack < 0 || slack > 99) {
            return refuse(3);
        }
        act();
        int was = world.slack[k];
        world.slack[k] = slack;
        return was;
    }

    boolean swap(int first, int second) {
        if (!place(first) || !place(second) || first == second) {
            refuse(3);
            return false;
        }
        act();
        java.util.Collections.swap(world.places, first, second);
        return true;
    }

    boolean undo() {
        if (acts.isEmpty()) {
            refuse(4);
            return false;
        }
        world = acts.remove(acts.size() - 1);
        return true;
    }

    boolean seed(int to) {
        if (to < 0) {
            refuse(5);
            return false;
        }
        seed = to;
        return true;
    }

    int feels(int from, int force, int p) {
        if (!place(from) || !place(p) || from == p || force < 1 || force > 9999) {
            return -1;
        }
        return effect(world, from, force).came[p];
    }

    private static int bits(List<Integer> of) {
        int bits = 0;
        for (int b : of) {
            bits += 1 << b;
        }
        return bits;
    }

    int wakes(int from, int force) {
        return !place(from) || force < 1 || force > 9999 ? -1 : bits(effect(world, from, force).woken);
    }

    int least(int from, int p) {
        if (!place(from) || !place(p) || from == p) {
            return -1;
        }
        for (int force = 1; force <= 9999; force++) {
            if (effect(world, from, force).woken.contains(p)) {
                return force;
            }
        }
        return -1;
    }

    private int badness(List<Boy> order) {
        World w = new World();
        w.tied = world.tied;
        w.slack = world.slack;
        for (Boy b : order) {
            Boy fresh = b.copy();
            wakesUp(fresh);
            fresh.asleep = true;
            fresh.felt = 0;
            w.places.add(fresh);
        }
        int bad = 0;
        for (int p = 0; p < order.size(); p++) {
            for (Dream d : dreams) {
                if (!order.get(p).ghost) {
                    bad += order.get(p).odds * d.odds() * effect(w, p, d.tug()).woken.size();
                }
            }
        }
        return bad;
    }

    int bad() {
        return badness(world.places);
    }

    private List<Boy> bestOrder;
    private int bestBad;

    private void tryOrders(List<Boy> so, List<Boy> rest) {
        if (rest.isEmpty()) {
            int bad = badness(so);
            if (bestOrder == null || bad < bestBad) {
                bestOrder = new ArrayList<>(so);
                bestBad = bad;
            }
        }
        for (int i = 0; i < rest.size(); i++) {
            List<Boy> then = new ArrayList<>(rest);
            so.add(then.remove(i));
            tryOrders(so, then);
            so.remove(so.size() - 1);
        }
    }

    int best(int k) {
        int n = world.places.size();
        if (n > 6 || n == 0 || k < -1 || k >= n) {
            return -1;
        }
        List<Boy> byNumber = new ArrayList<>();
        for (int i = 0; i < n; i++) {
            byNumber.add(world.boy(i));
        }
        bestOrder = null;
        tryOrders(new ArrayList<>(), byNumber);
        return k < 0 ? bestBad : bestOrder.get(k).number;
    }

    private int exchanged(List<Boy> order) {
        int count = 0;
        for (boolean more = true; more;) {
            more = false;
            int least = badness(order);
            List<Boy> to = null;
            for (int low = 0; low < order.size(); low++) {
                for (int high = low + 1; high < order.size(); high++) {
                    List<Boy> other = new ArrayList<>(order);
                    java.util.Collections.swap(other, low, high);
                    int bad = badness(other);
                    if (bad < least) {
                        least = bad;
                        to = other;
                    }
                }
            }
            if (to != null) {
                order.clear();
                order.addAll(to);
                count++;
                more = true;
            }
        }
        return count;
    }

    int exchange(int k) {
        List<Boy> order = new ArrayList<>(world.places);
        if (order.isEmpty() || (k != -1 && k != 20 && !place(k))) {
            return -1;
        }
        int count = exchanged(order);
        return k == 20 ? count : k < 0 ? badness(order) : order.get(k).number;
    }

    int lay() {
        if (world.places.isEmpty()) {
            return refuse(3);
        }
        List<Boy> order = new ArrayList<>(world.places);
        int count = exchanged(order);
        if (count > 0) {
            List<Integer> numbers = new ArrayList<>();
            for (Boy b : order) {
                numbers.add(b.number);
            }
            act();
            List<Boy> laid = new ArrayList<>();
            for (int n : numbers) {
                laid.add(world.boy(n));
            }
            world.places = laid;
        }
        return count;
    }

    int two(int what) {
        int n = world.places.size();
        if (n < 2 || n > 8 || what < 0 || what > 1) {
            return -1;
        }
        int least = Integer.MAX_VALUE;
        int leastBits = 0;
        for (int bits = 0; bits < 1 << n; bits++) {
            List<Boy> first = new ArrayList<>();
            List<Boy> second = new ArrayList<>();
            for (Boy b : world.places) {
                ((bits >> b.number & 1) == 1 ? second : first).add(b);
            }
            if (second.contains(world.places.get(0))) {
                continue;
            }
            int bad = badness(first) + badness(second);
            if (bad < least) {
                least = bad;
                leastBits = bits;
            }
        }
        return what == 0 ? least : leastBits;
    }

    boolean hear() {
        List<Integer> told = new ArrayList<>(tape);
        tape.clear();
        if (world.places.isEmpty() || told.size() != 2 * world.places.size()) {
            refuse(1);
            return false;
        }
        heard = new int[12];
        for (int i = 0; i < told.size(); i += 2) {
            heard[i / 2] = 256 * told.get(i) + told.get(i + 1);
        }
        return true;
    }

    int pulled(int boy, int dream) {
        if (!place(boy) || (dream != -1 && !isDream(dream)) || heard == null) {
            return -1;
        }
        Map<List<Integer>, Integer> can = new HashMap<>();
        int all = 0;
        for (Boy b : world.places) {
            for (int d = 0; d < dreams.size(); d++) {
                int[] came = effect(world, world.places.indexOf(b), dreams.get(d).tug()).came;
                if (!b.ghost && java.util.Arrays.equals(came, heard)) {
                    can.put(List.of(b.number, d), b.odds * dreams.get(d).odds());
                    all += b.odds * dreams.get(d).odds();
                }
            }
        }
        if (all == 0) {
            return -1;
        }
        int his = 0;
        for (int d = 0; d < dreams.size(); d++) {
            if (dream == -1 || dream == d) {
                his += 1000 * can.getOrDefault(List.of(boy, d), 0) / all;
            }
        }
        return his;
    }

    private void tryCuts(int n, List<Integer> from, List<Integer> so, List<List<Integer>> all) {
        if (so.size() == n) {
            all.add(new ArrayList<>(so));
            return;
        }
        for (int i = 0; i < from.size(); i++) {
            so.add(from.get(i));
            tryCuts(n, from.subList(i + 1, from.size()), so, all);
            so.remove(so.size() - 1);
        }
    }

    int cut(int n, int k) {
        if (n < 0 || n > 4 || tiedKnots().size() < n || world.places.isEmpty() || k < -1 || k >= n) {
            return -1;
        }
        List<List<Integer>> all = new ArrayList<>();
        tryCuts(n, tiedKnots(), new ArrayList<>(), all);
        int least = Integer.MAX_VALUE;
        List<Integer> first = null;
        for (List<Integer> cuts : all) {
            int heaviest = java.util.Collections.max(pieces(world, cuts));
            if (heaviest < least) {
                least = heaviest;
                first = cuts;
            }
        }
        return k < 0 ? least : first.get(k);
    }

    int walk(int p) {
        if (!place(p)) {
            return -1;
        }
        List<Integer> taken = new ArrayList<>();
        for (int step = -1; step <= 1; step += 2) {
            int pull = 3 * world.places.get(p).weight;
            for (int q = p; tiedTo(world, q, q + step); q += step) {
                pull -= world.slack[Math.min(q, q + step)];
                int weight = world.places.get(q + step).weight;
                if (pull < weight) {
                    break;
                }
                pull -= weight;
                taken.add(q + step);
            }
        }
        return bits(taken);
    }

    int beds(int holds, int k) {
        if (holds < 1 || holds > 9999 || world.places.isEmpty()) {
            return -1;
        }
        List<Integer> firsts = new ArrayList<>();
        int lies = 0;
        for (int p = 0; p < world.places.size(); p++) {
            int weight = world.places.get(p).weight;
            if (weight > holds) {
                return -1;
            }
            if (firsts.isEmpty() || lies + weight > holds) {
                firsts.add(p);
                lies = 0;
            }
            lies += weight;
        }
        return k == -1 ? firsts.size() : k >= 0 && k < firsts.size() ? firsts.get(k) : -1;
    }

    int nights(int n, int minutes, int what) {
        if (n < 1 || n > 20 || minutes < 1 || minutes > 60 || what < 0 || what > 2 || world.places.isEmpty()) {
            return -1;
        }
        int[] sums = new int[3];
        for (int i = 0; i < n; i++) {
            World w = world.copy();
            for (int m = 0; m < minutes && w.minute < 999; m++) {
                minute(w);
            }
            sums[0] += w.tugs.size() - world.tugs.size();
            sums[1] += (int) w.places.stream().filter(b -> !b.asleep).count();
            sums[2] += w.places.stream().allMatch(b -> b.ghost || !b.asleep) ? 1 : 0;
        }
        return sums[what];
    }

    private static int seal(List<Integer> of) {
        int c = 89;
        for (int b : of) {
            c = (5 * c + b) % 251;
        }
        return c;
    }

    int image() {
        octets = new ArrayList<>(List.of(world.minute / 256, world.minute % 256));
        for (Boy b : world.places) {
            int felt = Math.min(b.felt, 9999);
            octets.addAll(List.of(b.number, b.asleep ? 1 : 0, b.dream + 1, b.left, b.caught + 1, felt / 256,
                felt % 256));
        }
        for (int k = 0; k < world.places.size() - 1; k++) {
            octets.addAll(List.of(world.tied[k] ? 1 : 0, world.slack[k]));
        }
        octets.add(seal(octets));
        return octets.size();
    }

    int octet(int k) {
        return k >= 0 && k < octets.size() ? octets.get(k) : -1;
    }

    boolean on() {
        List<Integer> told = new ArrayList<>(tape);
        tape.clear();
        World w = imageOf(told);
        if (w == null) {
            refuse(5);
            return false;
        }
        world = w;
        acts.clear();
        heard = null;
        return true;
    }

    private World imageOf(List<Integer> told) {
        int n = world.places.size();
        if (told.size() != 3 + 7 * n + 2 * Math.max(0, n - 1)
            || told.get(told.size() - 1) != seal(told.subList(0, told.size() - 1))) {
            return null;
        }
        World w = world.copy();
        w.places.clear();
        w.tugs.clear();
        w.minute = 256 * told.get(0) + told.get(1);
        int at = 2;
        for (int p = 0; p < n; p++, at += 7) {
            Boy b = world.boy(told.get(at));
            if (b == null || w.boy(b.number) != null || told.get(at + 1) > 1) {
                return null;
            }
            b = b.copy();
            b.asleep = told.get(at + 1) == 1;
            b.dream = told.get(at + 2) - 1;
            b.left = told.get(at + 3);
            b.caught = told.get(at + 4) - 1;
            b.root = null;
            b.felt = 256 * told.get(at + 5) + told.get(at + 6);
            b.greatest = 0;
            b.together = 0;
            int lasts = b.dream < 0 ? 0 : isDream(b.dream) ? dreams.get(b.dream).lasts() : -1;
            if (b.left > lasts || (b.dream >= 0) != (b.left > 0) || (b.caught >= 0 && !isDream(b.caught))
                || b.felt > 9999) {
                return null;
            }
            if ((b.dream >= 0 || b.caught >= 0) && (b.ghost || !b.asleep) || b.dream >= 0 && b.caught >= 0) {
                return null;
            }
            w.places.add(b);
        }
        for (int k = 0; k < n - 1; k++, at += 2) {
            if (told.get(at) > 1 || told.get(at + 1) > 99) {
                return null;
            }
            w.tied[k] = told.get(at) == 1;
            w.slack[k] = told.get(at + 1);
        }
        return w.minute > 999 ? null : w;
    }

    int status(int what) {
        return what >= 0 && what < 6 ? refused[what] : -1;
    }
}
