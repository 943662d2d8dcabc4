import java.util.ArrayList;
import java.util.List;

/** Random texts and calls, the same each time: each answer of SleepRope must be that of Model. */
public final class AgainstModel {
    private static long state = 1;
    private static SleepRope rope;
    private static Model model;
    private static int calls;
    private static List<String> said;

    private AgainstModel() {
    }

    // Of 0 .. m - 1.
    private static int any(int m) {
        state = state * 6364136223846793005L + 1442695040888963407L;
        return (int) ((state >>> 33) % m);
    }

    private static int from(int least, int most) {
        return least + any(most - least + 1);
    }

    private static boolean odds(int percent) {
        return any(100) < percent;
    }

    // ---- texts

    private static String blank() {
        return odds(85) ? " " : odds(50) ? "  " : "\n ";
    }

    private static String maybe() {
        return odds(80) ? "" : blank();
    }

    private static String name() {
        StringBuilder s = new StringBuilder();
        for (int i = from(1, 6); i > 0; i--) {
            s.append((char) ('a' + any(26)));
        }
        return s.toString();
    }

    private static String told(String... words) {
        StringBuilder s = new StringBuilder();
        for (String w : words) {
            s.append(s.length() == 0 ? "" : blank()).append(w);
        }
        return s.toString();
    }

    private static String number(int least, int most) {
        int n = from(least, most);
        return odds(5) ? "000".substring(0, Math.max(0, 4 - ("" + n).length()) % 4) + n : "" + n;
    }

    private static String part(int deep) {
        String[] asked = {"force", "weight", "depth", "place", "minute", "beside", "felt"};
        int kind = any(deep > 0 ? 10 : 7);
        if (kind < 4) {
            return asked[any(7)];
        }
        if (kind < 7) {
            return odds(90) ? "" + any(40) : "" + any(10000);
        }
        if (kind == 7) {
            return "(" + maybe() + sum(deep - 1) + maybe() + ")";
        }
        return (kind == 8 ? "min" : "max") + maybe() + "(" + sum(deep - 1) + "," + maybe() + sum(deep - 1) + ")";
    }

    private static String sum(int deep) {
        StringBuilder s = new StringBuilder(part(deep));
        while (odds(40)) {
            s.append(maybe()).append("+-*/%".charAt(any(5))).append(maybe()).append(part(deep));
        }
        return s.toString();
    }

    private static String fact(int deep) {
        String nots = "";
        while (odds(15)) {
            nots += "not" + blank();
        }
        int kind = any(10);
        if (kind == 0) {
            return nots + "all";
        }
        if (kind < 3 && deep > 0) {
            return nots + "[" + maybe() + test(deep - 1) + maybe() + "]";
        }
        return nots + sum(deep) + maybe() + "<>=".charAt(any(3)) + maybe() + sum(deep);
    }

    private static String test(int deep) {
        StringBuilder s = new StringBuilder(fact(deep));
        while (odds(25)) {
            s.append(blank()).append(odds(50) ? "and" : "or").append(blank()).append(fact(deep));
        }
        return s.toString();
    }

    private static String law(int deep) {
        return (odds(50) ? "pass" : "deep") + blank() + sum(deep) + blank() + "when" + blank() + test(deep);
    }

    private static String boy() {
        String marks = (odds(25) ? blank() + "snores" : "") + (odds(15) ? blank() + "ghost" : "");
        return told("boy", name(), "weight", number(1, odds(70) ? 9 : 99), "depth",
            number(1, odds(80) ? 40 : 999), "odds", number(0, odds(50) ? 20 : 100), "pulls", number(0, 99)) + marks;
    }

    private static String dream() {
        return told("dream", name(), "tug", number(1, odds(80) ? 80 : 999), "lasts", number(1, odds(80) ? 5 : 60),
            "passes", number(1, odds(80) ? 25 : 999), "odds", number(1, odds(80) ? 6 : 99));
    }

    private static String dormText(int boys, int dreams, int laws) {
        List<String> all = new ArrayList<>();
        for (int i = 0; i < boys; i++) {
            all.add(boy());
        }
        for (int i = 0; i < dreams; i++) {
            all.add(dream());
        }
        for (int i = any(4); i > 0; i--) {
            all.add(told("slack", "" + any(odds(80) ? 6 : 100), "at", "" + any(11)));
        }
        for (int i = 0; i < laws; i++) {
            all.add(law(odds(80) ? 1 : 3));
        }
        StringBuilder s = new StringBuilder();
        while (!all.isEmpty()) {
            s.append(maybe()).append(all.remove(any(all.size()))).append(maybe()).append(";");
        }
        return s.append(maybe()).toString();
    }

    private static String spoilt(String text) {
        String[] bits = {" ", ";", "a", "7", "boy ", "dream ", "not ", "[", "(", "((((((((", "[[[[[[[[[", "ghost", "all",
            "12345", "abcdefg", "0", "9999", "100", "#", "A", "when", "+", "-", "min", ",", "]", ")", "\t",
            "slack 1 at 1;", "pass 1 when all;", "\0", "\u00ff", "snores snores", "or ", "and "};
        StringBuilder s = new StringBuilder(text);
        for (int i = from(1, 2); i > 0 && s.length() > 0; i--) {
            int p = any(s.length());
            if (odds(40)) {
                s.delete(p, Math.min(s.length(), p + from(1, 3)));
            } else {
                s.insert(p, bits[any(bits.length)]);
            }
        }
        return odds(15) ? s.substring(0, any(s.length() + 1)) : s.toString();
    }

    // ---- calls

    private static void same(String call, long got, long want) {
        calls++;
        said.add(call + " = " + got);
        if (got != want) {
            System.out.println(String.join("\n", said.subList(Math.max(0, said.size() - 40), said.size())));
        }
        Due.is(call, got, want);
    }

    private static void same(String call, boolean got, boolean want) {
        same(call, got ? 1 : 0, want ? 1 : 0);
    }

    private static void tape(int[] bytes) {
        for (int at = 0; at < bytes.length && at < 1600; at += 20) {
            int[] five = new int[5];
            for (int k = 0; k < 20; k++) {
                five[k / 4] = five[k / 4] << 8 | (at + k < bytes.length ? bytes[at + k] & 255 : any(256));
            }
            same("feed", rope.feed(five[0], five[1], five[2], five[3], five[4]), model.feed(five));
        }
        same("end", rope.end(bytes.length), model.end(bytes.length));
    }

    private static void tape(String text) {
        int[] bytes = new int[Math.min(1600, text.length())];
        for (int i = 0; i < bytes.length; i++) {
            bytes[i] = text.charAt(i);
        }
        tape(bytes);
    }

    private static void tellDorm(String text) {
        said.add(text);
        tape(text);
        same("dorm", rope.dorm(), model.dorm());
        same("fault(0)", rope.fault(0), model.fault(0));
        same("fault(1)", rope.fault(1), model.fault(1));
    }

    // A number that may be, or a little beside.
    private static int near(int most) {
        return odds(4) ? from(-3, most + 30) : odds(70) ? any(Math.max(1, model.has(0))) : from(-1, most);
    }

    private static int force() {
        return odds(5) ? from(-1, 10001) : odds(80) ? from(1, 90) : from(1, 9999);
    }

    private static void ask() {
        int a = near(11);
        int b = near(11);
        int c = near(13);
        int f = force();
        boolean is = odds(50);
        switch (any(20)) {
            case 0 -> same("has " + c, rope.has(c), model.has(c));
            case 1 -> same("letter", rope.letter(c % 3, a, b % 8), model.letter(c % 3, a, b % 8));
            case 2, 3 -> same("boy " + a + " " + c, rope.boy(a, c), model.boy(a, c));
            case 4 -> same("at " + a, rope.at(a), model.at(a));
            case 5 -> same("knot " + a + " " + b % 5, rope.knot(a, b % 5), model.knot(a, b % 5));
            case 6 -> same("dream " + a % 7 + " " + b % 6, rope.dream(a % 7, b % 6), model.dream(a % 7, b % 6));
            case 7, 8 -> {
                int k = from(-1, odds(50) ? 10 : 201);
                same("tug " + k + " " + b % 6, rope.tug(k, b % 6), model.tug(k, b % 6));
            }
            case 9 -> same("law " + a + " " + f + " " + is, rope.law(a, f, is), model.law(a, f, is));
            case 10 -> same("feels " + a + " " + f + " " + b, rope.feels(a, f, b), model.feels(a, f, b));
            case 11 -> same("wakes " + a + " " + f, rope.wakes(a, f), model.wakes(a, f));
            case 12 -> same("bad", rope.bad(), model.bad());
            case 13 -> same("pulled " + a + " " + b % 6, rope.pulled(a, b % 6), model.pulled(a, b % 6));
            case 14 -> same("cut " + b % 6 + " " + a % 5, rope.cut(b % 6, a % 5), model.cut(b % 6, a % 5));
            case 15 -> same("walk " + a, rope.walk(a), model.walk(a));
            case 16 -> same("beds " + f + " " + a, rope.beds(f, a), model.beds(f, a));
            case 17 -> same("status " + c % 8, rope.status(c % 8), model.status(c % 8));
            case 18 -> same("octet " + f, rope.octet(f), model.octet(f));
            default -> same("fault " + c, rope.fault(c), model.fault(c));
        }
    }

    private static void act() {
        int a = near(11);
        int b = near(11);
        boolean is = odds(50);
        switch (any(12)) {
            case 0, 1 -> {
                int n = odds(80) ? from(0, 5) : from(0, 100);
                same("go " + n, rope.go(n), model.go(n));
            }
            case 2, 3, 4 -> same("dreams " + a + " " + b % 6, rope.dreams(a, b % 6), model.dreams(a, b % 6));
            case 5 -> same("wake " + a + " " + is, rope.wake(a, is), model.wake(a, is));
            case 6 -> same("wake " + a + " false", rope.wake(a, false), model.wake(a, false));
            case 7 -> same("tie " + a + " " + is, rope.tie(a, is), model.tie(a, is));
            case 8 -> {
                int s = odds(80) ? any(10) : from(-1, 101);
                same("slack " + a + " " + s, rope.slack(a, s), model.slack(a, s));
            }
            case 9 -> same("swap " + a + " " + b, rope.swap(a, b), model.swap(a, b));
            case 10 -> same("undo", rope.undo(), model.undo());
            default -> {
                int s = odds(10) ? -any(9) : any(Integer.MAX_VALUE);
                same("seed " + s, rope.seed(s), model.seed(s));
            }
        }
    }

    private static void dear() {
        int k = near(6);
        switch (any(8)) {
            case 0 -> same("best " + k, rope.best(k), model.best(k));
            case 1 -> same("exchange " + k, rope.exchange(k), model.exchange(k));
            case 2 -> same("exchange 20", rope.exchange(20), model.exchange(20));
            case 3 -> same("lay", rope.lay(), model.lay());
            case 4 -> same("two " + k % 3, rope.two(k % 3), model.two(k % 3));
            case 5 -> {
                int n = from(0, odds(90) ? 4 : 21);
                int m = from(0, odds(90) ? 9 : 61);
                same("nights " + n + " " + m, rope.nights(n, m, k % 4), model.nights(n, m, k % 4));
                same("seed is", rope.has(11), model.has(11));
            }
            default -> {
                int b = near(6);
                same("least " + k + " " + b, rope.least(k, b), model.least(k, b));
            }
        }
    }

    // HEARD as by one of the DREAMS, or a little otherwise.
    private static void hear() {
        int n = model.has(0);
        int from = any(12);
        int tug = model.dream(any(6), 0);
        int[] bytes = new int[2 * n + (odds(5) ? 1 : 0)];
        for (int p = 0; p < n; p++) {
            int f = Math.max(0, model.feels(from, Math.max(1, tug), p));
            f += odds(2) ? any(300) : 0;
            bytes[2 * p] = f / 256;
            bytes[2 * p + 1] = f % 256;
        }
        tape(bytes);
        same("hear", rope.hear(), model.hear());
        for (int boy = 0; boy < n; boy++) {
            same("pulled " + boy, rope.pulled(boy, -1), model.pulled(boy, -1));
        }
    }

    private static void image() {
        int n = rope.image();
        same("image", n, model.image());
        for (int k = -1; k <= n && calls < 420; k++) {
            same("octet " + k, rope.octet(k), model.octet(k));
        }
    }

    private static void on() {
        int n = model.image();
        same("image", rope.image(), n);
        int[] bytes = new int[n];
        for (int k = 0; k < n; k++) {
            bytes[k] = model.octet(k);
        }
        for (int i = any(4); i > 0; i--) {
            int p = any(n - 1);
            bytes[p] = odds(70) ? any(3) : odds(70) ? any(14) : any(256);
        }
        int seal = 89;
        for (int k = 0; k < n - 1; k++) {
            seal = (5 * seal + bytes[k]) % 251;
        }
        bytes[n - 1] = odds(95) ? seal : any(256);
        tape(odds(97) ? bytes : java.util.Arrays.copyOf(bytes, n - 1));
        same("on", rope.on(), model.on());
    }

    private static void looksAlike() {
        for (int b = 0; b < model.has(0) && calls < 480; b++) {
            for (int what = 5; what <= 12; what++) {
                same("boy " + b + " " + what, rope.boy(b, what), model.boy(b, what));
            }
        }
        for (int what = 0; what < 12; what++) {
            same("has " + what, rope.has(what), model.has(what));
        }
    }

    private static void run(int number) {
        state = 1_000_003L * number + 17;
        rope = new SleepRope();
        model = new Model();
        calls = 0;
        said = new ArrayList<>();
        boolean isFew = odds(60);
        int boys = isFew ? from(1, 5) : any(13);
        tellDorm(dormText(boys, odds(90) ? from(1, 3) : any(7), odds(30) ? 0 : any(6)));
        if (odds(40)) {
            tellDorm(spoilt(dormText(any(5), any(4), any(4))));
        }
        while (calls < 430) {
            int kind = any(100);
            if (kind < 45) {
                act();
            } else if (kind < 88) {
                ask();
            } else if (kind < 92) {
                if (isFew || odds(10)) {
                    dear();
                }
            } else if (kind < 94) {
                hear();
            } else if (kind < 95) {
                image();
            } else if (kind < 97) {
                on();
            } else if (odds(15) && calls < 300) {
                tellDorm(odds(50) ? dormText(any(5), any(4), any(3)) : spoilt(dormText(any(4), any(3), any(3))));
            }
        }
        looksAlike();
    }

    // Texts alone, for FAULTS: an object reads each, and its like, spoilt.
    private static void texts(int number) {
        state = 7_000_003L * number + 5;
        rope = new SleepRope();
        model = new Model();
        calls = 0;
        said = new ArrayList<>();
        while (calls < 400) {
            String text = dormText(any(4), any(3), any(4));
            tellDorm(odds(80) ? spoilt(text) : text);
        }
    }

    public static void main(String[] args) {
        int runs = args.length > 0 ? Integer.parseInt(args[0]) : 400;
        for (int number = 1; number <= runs; number++) {
            run(number);
            texts(number);
        }
        Due.end();
    }
}
