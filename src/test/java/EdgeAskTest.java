/** What lies at a bound, in part III of the document and in promises 22 to 39: one test for each such sentence. */
public final class EdgeAskTest {
    private static final int LEAST = Integer.MIN_VALUE;
    private static final int GREATEST = Integer.MAX_VALUE;
    private static final int[] NO_FORCES = {0, -1, 10000, LEAST, GREATEST};
    private static final String TWELVE = Texts.boys(12, 1, 999, 0);
    private static final String GHOST = Texts.boy("g", 9, 9, 100, 9, "ghost");

    private EdgeAskTest() {
    }

    // ---- promises 22 to 24: one TUG

    // "a TUG of a force (1 .. 9999) from another PLACE ..; NONE when there are none such, or it is one PLACE."
    private static void feelsAtItsBounds() {
        SleepRope x = Due.dorm(TWELVE);
        for (int force : NO_FORCES) {
            Due.is("force " + force, x.feels(0, force, 1), -1);
        }
        Due.is("force 1", x.feels(0, 1, 1), 1);
        Due.is("force 9999", x.feels(11, 9999, 10), 9999);
        for (int place : new int[] {-1, 12, LEAST, GREATEST}) {
            Due.is("from " + place, x.feels(place, 9, 0), -1);
            Due.is("to " + place, x.feels(0, 9, place), -1);
        }
        for (int place : new int[] {0, 11}) {
            Due.is("one PLACE", x.feels(place, 9, place), -1);
        }
        Due.is("from the first to the last", x.feels(0, 11, 11), 1);
        Due.is("all gone ahead of the last", x.feels(0, 10, 11), 0);
        Due.is("from the last to the first", x.feels(11, 11, 0), 1);
        Due.is("nobody felt it", x.boy(11, 10), 0);
        Due.nothingRefused(x);
    }

    // "BOYS who would wake by a TUG of a force (1 .. 9999) .., as bits by PLACES; NONE when there is none such."
    private static void wakesAtItsBounds() {
        SleepRope x = Due.dorm(TWELVE);
        for (int force : NO_FORCES) {
            Due.is("force " + force, x.wakes(0, force), -1);
        }
        for (int place : new int[] {-1, 12, LEAST, GREATEST}) {
            Due.is("from " + place, x.wakes(place, 9999), -1);
        }
        Due.is("force 1", x.wakes(0, 1), 0);
        Due.is("force 9999", x.wakes(5, 9999), 1 << 4 | 1 << 6);
        Due.is("the last", x.wakes(10, 9999), 1 << 9 | 1 << 11);
        Due.is("the first", x.wakes(1, 9999), 1 | 1 << 2);
        x.swap(0, 11);
        x.wake(0, true);
        Due.is("by PLACES, not by numbers", x.wakes(10, 9999), 1 << 9);
        Due.nothingRefused(x);
    }

    // "The least force (1 .. 9999) of a TUG ..; NONE when none does, or there are none such."
    private static void leastAtItsBounds() {
        SleepRope one = Due.dorm(Texts.boys(2, 1, 1, 0) + "deep 0-1 when all;");
        Due.is("1", one.least(0, 1), 1);
        Due.is("1, down", one.least(1, 0), 1);
        Due.is("2", Due.dorm(Texts.boys(2, 1, 1, 0)).least(0, 1), 2);
        Due.is("1000", Due.dorm(Texts.boys(2, 1, 999, 0)).least(0, 1), 1000);
        Due.is("9999", Due.dorm(Texts.boys(2, 1, 1, 0) + "deep 9998 when all;").least(0, 1), 9999);
        Due.is("above it", Due.dorm(Texts.boys(2, 1, 1, 0) + "deep 9999 when all;").least(0, 1), -1);
        Due.is("9999 with SLACK", Due.dorm(Texts.boys(2, 1, 1, 0) + "deep 9900 when all;" + Texts.slack(98, 0)).least(0, 1), 9999);
        Due.is("above it with SLACK", Due.dorm(Texts.boys(2, 1, 1, 0) + "deep 9900 when all;" + Texts.slack(99, 0)).least(0, 1),
            -1);
        SleepRope x = Due.dorm(Texts.boys(2, 1, 5, 0) + GHOST);
        for (int place : new int[] {-1, 3, LEAST, GREATEST}) {
            Due.is("from " + place, x.least(place, 0), -1);
            Due.is("to " + place, x.least(0, place), -1);
        }
        Due.is("one PLACE", x.least(1, 1), -1);
        Due.is("a ghost", x.least(0, 2), -1);
        Due.is("from a ghost", x.least(2, 1), 6);
        x.tie(0, false);
        Due.is("not tied", x.least(0, 1), -1);
        x.tie(0, true);
        x.wake(1, true);
        Due.is("one awake", x.least(0, 1), -1);
        Due.is("behind one awake", x.least(2, 0), -1);
        Due.nothingRefused(x);
    }

    // Who lies between wakes by what is more: so just one force, or none, may be left.
    private static void leastThroughOneWhoWakes() {
        int[] depths = {9, 10, 11, 12};
        int[] due = {-1, -1, 11, 11};
        for (int i = 0; i < depths.length; i++) {
            SleepRope x = Due.dorm(Texts.boy(0, 1, 9, 0) + Texts.boy(1, 1, depths[i], 0) + Texts.boy(2, 1, 9, 0));
            Due.is("through one of depth " + depths[i], x.least(0, 2), due[i]);
        }
    }

    // ---- promises 25 to 29: orders

    // BADNESS: 0 where there is nothing, and as much as there can be.
    private static void badnessAtItsBounds() {
        Due.is("without BOYS", Due.dorm(Texts.dreams(6, 999, 1, 1, 99)).bad(), 0);
        Due.is("without DREAMS", Due.dorm(Texts.boys(12, 1, 1, 100)).bad(), 0);
        Due.is("odds 0", Due.dorm(Texts.boys(12, 1, 1, 0) + Texts.dreams(6, 999, 1, 1, 99)).bad(), 0);
        Due.is("one BOY", Due.dorm(Texts.boy(0, 1, 1, 100) + Texts.dreams(6, 999, 1, 1, 99)).bad(), 0);
        Due.is("ghosts", Due.dorm(GHOST + GHOST.replace("boy g", "boy h") + Texts.dreams(6, 999, 1, 1, 99)).bad(), 0);
        SleepRope most = Due.dorm(Texts.boys(12, 1, 1, 100) + Texts.dreams(6, 999, 1, 1, 99));
        Due.is("the greatest", most.bad(), 100 * 99 * 6 * 22);
        for (int k = 0; k < 11; k++) {
            most.tie(k, false);
        }
        Due.is("no KNOT tied", most.bad(), 0);
        SleepRope least = Due.dorm(Texts.boy(0, 1, 1, 1) + Texts.boy(1, 1, 1, 0) + Texts.dream("d", 2, 1, 1, 1));
        Due.is("the least above 0", least.bad(), 1);
        least.slack(0, 1);
        Due.is("just not", least.bad(), 0);
        Due.nothingRefused(least);
    }

    // He alone sleeps well whose weight and PLACE are together as many as there are BOYS: they must lie the other way round.
    private static String turned(int n, int odds) {
        StringBuilder s = new StringBuilder("deep 999 when weight+place=" + n + ";deep 0 when all;" + Texts.dreams(1, 9, 1, 1, 1));
        for (int i = 0; i < n; i++) {
            s.append(Texts.boy(i, i + 1, 9, odds));
        }
        return s.toString();
    }

    // "of at most 6 BOYS the one with the least BADNESS, of like ones the first by numbers, PLACE by PLACE": the very first
    // and the very last of all orders; "NONE with more than 6 BOYS, without BOYS, or for others."
    private static void bestAtItsBounds() {
        for (int n = 1; n <= 6; n++) {
            SleepRope last = Due.dorm(turned(n, 100));
            SleepRope first = Due.dorm(turned(n, 0));
            first.swap(0, n - 1);
            Due.is("the last order of " + n, last.best(-1), 0);
            Due.is("the first order of " + n, first.best(-1), 0);
            for (int k = 0; k < n; k++) {
                Due.is("PLACE " + k + " of the last", last.best(k), n - 1 - k);
                Due.is("PLACE " + k + " of the first", first.best(k), k);
            }
            for (int k : new int[] {-2, n, 20, LEAST, GREATEST}) {
                Due.is("best " + k + " of " + n, last.best(k), -1);
            }
            Due.is("they lie as they lay", last.at(0), 0);
            Due.nothingRefused(last);
        }
        for (int n = 7; n <= 12; n += 5) {
            SleepRope x = Due.dorm(turned(n, 0));
            Due.is("of " + n, x.best(-1), -1);
            Due.is("PLACE 0 of " + n, x.best(0), -1);
        }
        SleepRope none = Due.dorm(Texts.dreams(6, 1, 1, 1, 1));
        Due.is("without BOYS", none.best(-1), -1);
        Due.is("PLACE 0 without", none.best(0), -1);
    }

    // "if that is less than it is": like ones are no EXCHANGE; "NONE without BOYS, or for others."
    private static void exchangeAtItsBounds() {
        for (int n : new int[] {1, 2, 7, 12}) {
            SleepRope x = Due.dorm(turned(n, 0));
            Due.is("no EXCHANGE of like ones", x.exchange(20), 0);
            Due.is("BADNESS", x.exchange(-1), 0);
            Due.is("the first PLACE", x.exchange(0), 0);
            Due.is("the last PLACE", x.exchange(n - 1), n - 1);
            for (int k : new int[] {-2, n, 19, 21, LEAST, GREATEST}) {
                Due.is("exchange " + k + " of " + n, x.exchange(k), -1);
            }
            Due.nothingRefused(x);
        }
        SleepRope two = Due.dorm(turned(2, 100));
        Due.is("both wake", two.bad(), 200);
        Due.is("one EXCHANGE", two.exchange(20), 1);
        Due.is("none wakes", two.exchange(-1), 0);
        Due.is("the second is first", two.exchange(0), 1);
        Due.is("they lie as they lay", two.at(0), 0);
        SleepRope none = Due.dorm(Texts.dreams(6, 1, 1, 1, 1));
        for (int k : new int[] {-1, 0, 20}) {
            Due.is("without BOYS " + k, none.exchange(k), -1);
        }
        Due.nothingRefused(none);
    }

    // He wakes who lies next to him, where the LAW does not let that one sleep.
    private static SleepRope oneWhoWakes(int n, int dreamer, String sleeps) {
        return Due.dorm(Texts.boysFrom(0, dreamer, 1, 999, 0) + Texts.boy(dreamer, 1, 999, 7)
            + Texts.boysFrom(dreamer + 1, n, 1, 999, 0) + Texts.dream("d", 9, 1, 1, 1) + "deep 999 when " + sleeps
            + ";deep 0 when all;pass 0 when all;");
    }

    private static SleepRope oneWhoWakes(int dreamer, String sleeps) {
        return oneWhoWakes(6, dreamer, sleeps);
    }

    private static void exchangesTo(String what, SleepRope x, int before, int... order) {
        Due.is(what + ", ahead of it", x.bad(), before);
        Due.is(what + ", EXCHANGES", x.exchange(20), 1);
        Due.is(what + ", BADNESS", x.exchange(-1), 0);
        for (int k = 0; k < order.length; k++) {
            Due.is(what + ", PLACE " + k, x.exchange(k), order[k]);
        }
    }

    // The first and the last of twelve PLACES.
    private static void exchangeOfTwelve() {
        SleepRope x = oneWhoWakes(12, 0, "place=10");
        exchangesTo("0 and 11", x, 7, 11, 1, 2, 3, 4, 5, 6, 7, 8, 9, 10, 0);
        Due.is("lay", x.lay(), 1);
        Due.is("the last is first", x.at(0), 11);
        Due.is("the first is last", x.at(11), 0);
        Due.is("BADNESS", x.bad(), 0);
        Due.is("no more", x.exchange(20), 0);
        Due.is("he is last there, too", x.exchange(11), 0);
        x.undo();
        Due.is("as it was", x.at(11), 11);
        Due.is("BADNESS again", x.bad(), 7);
        x.swap(0, 11);
        Due.is("by hand", x.bad(), 0);
        x.swap(11, 10);
        Due.is("and one too far", x.bad(), 14);
        SleepRope y = oneWhoWakes(12, 0, "1=2");
        y.swap(0, 11);
        Due.is("from the last PLACE", y.bad(), 7);
        Due.is("nowhere is it less", y.exchange(-1), 7);
    }

    // "the two PLACES (by the lesser, then the greater) whose exchange makes BADNESS least ..; of like ones the first."
    private static void likeExchanges() {
        exchangesTo("0 and 3, not 3 and 5", oneWhoWakes(3, "place<2 or place=4"), 7, 3, 1, 2, 0, 4, 5);
        exchangesTo("0 and 3, not 0 and 4", oneWhoWakes(0, "place>1"), 7, 3, 1, 2, 0, 4, 5);
        exchangesTo("0 and 1, the very first", oneWhoWakes(0, "not place=1"), 7, 1, 0, 2, 3, 4, 5);
        exchangesTo("3 and 5, which alone is good", oneWhoWakes(3, "place=4"), 7, 0, 1, 2, 5, 4, 3);
        exchangesTo("4 and 5, the very last", oneWhoWakes(4, "place=4"), 14, 0, 1, 2, 3, 5, 4);
        exchangesTo("3 and 4, the least, not 0 and 3, which is less", oneWhoWakes(3, "place=3 or place=5"), 14, 0, 1, 2, 4, 3, 5);
        SleepRope like = oneWhoWakes(0, "1=2");
        Due.is("nowhere is it less", like.exchange(20), 0);
        Due.is("so it stays", like.exchange(-1), 7);
    }

    // "(an ACT, if there are some): how many EXCHANGES; NONE, refused (3), without BOYS."
    private static void layAtItsBounds() {
        SleepRope none = Due.dorm(Texts.dreams(6, 1, 1, 1, 1));
        Due.refused(none, 3, "without BOYS", none::lay);
        SleepRope x = Due.dorm(turned(2, 100));
        int[] was = Due.seen(x);
        Due.is("some", x.lay(), 1);
        Due.is("an ACT", x.has(9), 1);
        Due.is("they lie so", x.at(0), 1);
        Due.is("BADNESS", x.bad(), 0);
        Due.is("none more", x.lay(), 0);
        Due.is("no ACT", x.has(9), 1);
        Due.is("undone", x.undo(), true);
        Due.stays("undo", x, was);
        SleepRope one = Due.dorm(turned(1, 100));
        Due.is("one BOY", one.lay(), 0);
        Due.refused(one, 4, "nothing to undo", one::undo);
    }

    // "TWO ROPES, of 2 to 8 BOYS"; "NONE with fewer than 2, more than 8 BOYS, or for others."
    private static void twoAtItsBounds() {
        for (int n = 0; n <= 12; n++) {
            SleepRope x = Due.dorm(Texts.boys(n, 1, 999, 0));
            boolean can = n >= 2 && n <= 8;
            Due.is("BADNESS of " + n, x.two(0), can ? 0 : -1);
            Due.is("none on the second of " + n, x.two(1), can ? 0 : -1);
            for (int what : new int[] {-1, 2, LEAST, GREATEST}) {
                Due.is("what " + what + " of " + n, x.two(what), -1);
            }
            Due.nothingRefused(x);
        }
    }

    // "some of them, or none (bits of BOYS; not the one in PLACE 0)": all others, and one alone by his number.
    private static void allOthersOnTheSecond() {
        SleepRope x = Due.dorm(Texts.boy(0, 1, 1, 100) + Texts.boysFrom(1, 8, 1, 999, 100) + Texts.dream("d", 99, 1, 1, 1));
        Due.is("he alone wakes, by seven", x.bad(), 700);
        Due.is("alone by none", x.two(0), 0);
        Due.is("all the others", x.two(1), 254);
        x.swap(0, 7);
        Due.is("not the one in PLACE 0", x.two(1), 1);
        x.swap(0, 3);
        Due.is("whoever that is", x.two(1), 1);
        SleepRope last = Due.dorm(turned(8, 0));
        Due.is("none of like ones", last.two(1), 0);
    }

    // best(), exchange(), two() are of the state as it is: whatever changes it.
    private static void ordersFollowTheState() {
        String text = Texts.boys(3, 1, 5, 100) + Texts.dream("d", 6, 1, 1, 1);
        SleepRope x = Due.dorm(text);
        orders(x, "at first", 400, 200);
        int[] image = Due.image(x);
        x.slack(0, 1);
        orders(x, "SLACK", 200, 0);
        x.undo();
        orders(x, "undone", 400, 200);
        x.tie(1, false);
        orders(x, "a KNOT undone", 200, 200);
        Due.is("on", Due.on(x, image), true);
        orders(x, "an IMAGE", 400, 200);
        x.slack(0, 1);
        orders(x, "SLACK again", 200, 0);
        Due.tape(x, text);
        x.dorm();
        orders(x, "dorm", 400, 200);
        Due.tape(x, text.replace("odds 100", "odds 50"));
        x.dorm();
        orders(x, "another dorm", 200, 100);
        x.wake(0, true);
        x.go(3);
        orders(x, "all asleep, in MINUTE 0", 200, 100);
        Due.tape(x, "#");
        x.dorm();
        orders(x, "a refused dorm", 200, 100);
        x.tie(0, false);
        x.tie(1, false);
        orders(x, "no KNOT tied", 0, 0);
    }

    // What was asked for of a state that was left again tells nothing of another one.
    private static void ordersOfStatesThatAreLeft() {
        String text = Texts.boys(3, 1, 5, 100) + Texts.dream("d", 6, 1, 1, 1);
        for (int way = 0; way < 3; way++) {
            SleepRope x = Due.dorm(text);
            int[] image = Due.image(x);
            x.slack(0, 1);
            orders(x, "SLACK", 200, 0);
            if (way == 0) {
                x.undo();
            } else if (way == 1) {
                Due.on(x, image);
            } else {
                Due.tape(x, text);
                x.dorm();
            }
            x.tie(1, false);
            orders(x, "left by way " + way, 200, 200);
        }
    }

    private static void orders(SleepRope x, String when, int bad, int two) {
        Due.is("bad, " + when, x.bad(), bad);
        Due.is("best, " + when, x.best(-1), bad);
        Due.is("exchange, " + when, x.exchange(-1), bad);
        Due.is("two, " + when, x.two(0), two);
    }

    // ---- promises 30, 31: what is HEARD

    // "two bytes for each PLACE ..: true; false, refused (1), all staying, when it has not just so many, or without BOYS."
    private static void hearAtItsBounds() {
        for (int n : new int[] {1, 2, 12}) {
            SleepRope x = Due.dorm(Texts.boys(n, 1, 999, 1) + Texts.dream("d", 12, 1, 1, 1));
            int[] forces = new int[n];
            for (int place = 1; place < n; place++) {
                forces[place] = 13 - place;
            }
            Due.is("just so many", Due.hear(x, forces), true);
            Due.is("it is HEARD", x.pulled(0, 0), 1000);
            for (int bytes : new int[] {0, 1, 2 * n - 2, 2 * n - 1, 2 * n + 1, 2 * n + 2, 40}) {
                Due.tape(x, new int[bytes]);
                Due.refused(x, 1, bytes + " bytes of " + n + " PLACES", x::hear);
                Due.is("what was HEARD stays", x.pulled(0, 0), 1000);
            }
        }
        SleepRope none = new SleepRope();
        Due.refused(none, 1, "without BOYS", none::hear);
        none.feed(0, 0, 0, 0, 0);
        none.end(2);
        Due.refused(none, 1, "two bytes without BOYS", none::hear);
    }

    // "(the higher first)": forces of one byte, of two, and one that nobody ever would FEEL.
    private static void heardForces() {
        for (int force : new int[] {1, 255, 256, 257, 511, 512, 998, 999}) {
            SleepRope x = Due.dorm(Texts.boys(2, 1, 999, 1) + Texts.dream("d", force, 1, 1, 1));
            for (int other : new int[] {force - 1, force + 1, force + 256, force + 32768, 65535, force % 256 * 256 + force / 256}) {
                Due.hear(x, 0, other);
                Due.is("HEARD " + other + " of force " + force, x.pulled(0, 0), other == force ? 1000 : -1);
            }
            Due.hear(x, 0, force);
            Due.is("just force " + force, x.pulled(0, 0), 1000);
        }
    }

    // "each PLACE would FEEL just that": one that differs is enough, be it the first, the last, his own.
    private static void eachPlaceCounts() {
        SleepRope x = Due.dorm(Texts.boys(4, 2, 999, 1) + Texts.dream("d", 9, 1, 1, 1));
        int[] forces = {7, 9, 0, 9};
        for (int place = 0; place < 4; place++) {
            for (int more = -1; more <= 1; more++) {
                int[] heard = forces.clone();
                heard[place] = Math.max(0, heard[place] + more);
                boolean isSame = heard[place] == forces[place];
                Due.is("HEARD", Due.hear(x, heard), true);
                Due.is("PLACE " + place + " and " + more, x.pulled(2, 0), isSame ? 1000 : -1);
            }
        }
        SleepRope one = Due.dorm(Texts.boy(0, 1, 9, 1) + Texts.dreams(2, 9, 1, 1, 1));
        Due.hear(one, 1);
        Due.is("one who hears himself", one.pulled(0, -1), -1);
        Due.hear(one, 0);
        Due.is("one who hears nothing", one.pulled(0, 1), 500);
    }

    // ODDS: "floor(1000 times .. / ..)", "all floors together"; "NONE when there are none such, nothing was told .., or the
    // odds of all .. that can have are 0 together (also when nobody can have)."
    private static void pulledAtItsBounds() {
        SleepRope x = Due.dorm(Texts.boys(2, 1, 999, 100) + GHOST + Texts.dream("d", 9, 1, 1, 99) + Texts.dream("e", 9, 1, 1, 99)
            + Texts.dream("f", 9, 1, 1, 99) + Texts.dream("h", 8, 1, 1, 99));
        Due.is("nothing was told", x.pulled(0, -1), -1);
        Due.hear(x, 0, 9, 8);
        Due.is("a third", x.pulled(0, 0), 333);
        Due.is("floors together", x.pulled(0, -1), 999);
        Due.is("by another force", x.pulled(0, 3), 0);
        Due.is("one who can't have", x.pulled(1, -1), 0);
        Due.is("a ghost", x.pulled(2, -1), 0);
        for (int boy : new int[] {-1, 3, LEAST, GREATEST}) {
            Due.is("BOY " + boy, x.pulled(boy, 0), -1);
            Due.is("BOY " + boy + " by any", x.pulled(boy, -1), -1);
        }
        for (int dream : new int[] {-2, 4, LEAST, GREATEST}) {
            Due.is("DREAM " + dream, x.pulled(0, dream), -1);
        }
        Due.hear(x, 9, 9, 0);
        Due.is("a ghost alone could", x.pulled(2, -1), -1);
        Due.hear(x, 0, 0, 0);
        Due.is("nobody can have", x.pulled(0, -1), -1);
        Due.nothingRefused(x);
        SleepRope none = Due.dorm(Texts.boys(2, 1, 9, 1));
        Due.hear(none, 0, 0);
        Due.is("without DREAMS", none.pulled(0, -1), -1);
        Due.is("by none such", none.pulled(0, 0), -1);
        SleepRope odds = Due.dorm(Texts.boy(0, 1, 9, 0) + Texts.boy(1, 1, 9, 1) + Texts.dream("d", 9, 1, 1, 1) + Texts.slack(99, 0));
        Due.hear(odds, 0, 0);
        Due.is("odds 0", odds.pulled(0, -1), 0);
        Due.is("odds 1", odds.pulled(1, -1), 1000);
        odds.slack(0, 0);
        Due.hear(odds, 0, 9);
        Due.is("odds 0 together", odds.pulled(0, -1), -1);
    }

    // Twelve who may all have PULLED: the floors are small, and lose the most.
    private static void twelveMayHave() {
        SleepRope x = Due.dorm(Texts.boys(12, 1, 9, 100) + Texts.dreams(6, 9, 1, 1, 99));
        for (int k = 0; k < 11; k++) {
            x.tie(k, false);
        }
        Due.hear(x, new int[12]);
        Due.is("one of 72", x.pulled(11, 5), 13);
        Due.is("six of 72", x.pulled(0, -1), 6 * 13);
    }

    // "nothing was told by hear() since dorm() (or since on() that was true: nothing is HEARD behind it)"
    private static void heardSince() {
        String text = Texts.boys(2, 1, 999, 1) + Texts.dream("d", 9, 1, 1, 1);
        SleepRope x = Due.dorm(text);
        int[] image = Due.image(x);
        Due.hear(x, 0, 9);
        Due.refused(x, 5, "no IMAGE", x::on);
        Due.refused(x, 1, "as few bytes", x::hear);
        Due.tape(x, "boy");
        Due.refused(x, 1, "no DORM", x::dorm);
        Due.is("HEARD still", x.pulled(0, 0), 1000);
        Due.on(x, image);
        Due.is("behind on()", x.pulled(0, 0), -1);
        Due.hear(x, 0, 9);
        Due.is("told again", x.pulled(0, 0), 1000);
        Due.tape(x, text);
        x.dorm();
        Due.is("behind dorm()", x.pulled(0, 0), -1);
    }

    // ---- promises 32 to 34: cuts, walks, beds

    // "the n (0 .. 4) ..; NONE when n can't be, there are not so many that are tied, without BOYS, or for others."
    private static void cutAtItsBounds() {
        SleepRope x = Due.dorm(Texts.boys(12, 99, 9, 0));
        int[] heaviest = {12 * 99, 6 * 99, 4 * 99, 3 * 99, 3 * 99};
        int[][] knots = {{}, {5}, {3, 7}, {2, 5, 8}, {0, 2, 5, 8}};
        for (int n = 0; n <= 4; n++) {
            Due.is("heaviest of " + n, x.cut(n, -1), heaviest[n]);
            for (int k = 0; k < n; k++) {
                Due.is("KNOT " + k + " of " + n, x.cut(n, k), knots[n][k]);
            }
            for (int k : new int[] {-2, n, LEAST, GREATEST}) {
                Due.is("cut " + n + " " + k, x.cut(n, k), -1);
            }
        }
        for (int n : new int[] {-1, 5, LEAST, GREATEST}) {
            Due.is("n " + n, x.cut(n, -1), -1);
            Due.is("n " + n + ", KNOT 0", x.cut(n, 0), -1);
        }
        Due.is("all are tied still", x.has(3), 11);
        Due.nothingRefused(x);
        SleepRope none = Due.dorm(Texts.dreams(1, 1, 1, 1, 1));
        Due.is("without BOYS", none.cut(0, -1), -1);
        SleepRope one = Due.dorm(Texts.boy(0, 99, 9, 0));
        Due.is("one BOY", one.cut(0, -1), 99);
        Due.is("who has no KNOT", one.cut(1, -1), -1);
    }

    // Five BOYS, four KNOTS: all cut; then with fewer that are tied, each in turn undone.
    private static void cutOfTheTied() {
        for (int undone = 0; undone < 4; undone++) {
            SleepRope x = Due.dorm(Texts.boys(5, 7, 9, 0));
            Due.is("all four", x.cut(4, -1), 7);
            for (int k = 0; k < 4; k++) {
                Due.is("KNOT " + k, x.cut(4, k), k);
            }
            x.tie(undone, false);
            Due.is("not four", x.cut(4, -1), -1);
            Due.is("but three", x.cut(3, -1), 7);
            for (int k = 0; k < 3; k++) {
                Due.is("KNOT " + k + " without " + undone, x.cut(3, k), k < undone ? k : k + 1);
            }
            Due.is("the longer PIECE", x.cut(0, -1), 7 * Math.max(undone + 1, 4 - undone));
            // It is cut at its middle.
            int[] once = {2, 2, 0, 1};
            Due.is("the first that is tied, of like ones", x.cut(1, 0), once[undone]);
        }
        // Where no CUT makes it lighter, the first that are tied.
        SleepRope heavy = Due.dorm(Texts.boy(0, 99, 9, 0) + Texts.boysFrom(1, 6, 1, 9, 0));
        heavy.tie(0, false);
        heavy.tie(2, false);
        int[] tied = {1, 3, 4};
        for (int n = 0; n <= 3; n++) {
            Due.is("one is heavy", heavy.cut(n, -1), 99);
            for (int k = 0; k < n; k++) {
                Due.is("KNOT " + k + " of those tied", heavy.cut(n, k), tied[k]);
            }
        }
        SleepRope none = Due.dorm(Texts.boys(3, 7, 9, 0));
        none.tie(0, false);
        none.tie(1, false);
        Due.is("none is tied", none.cut(0, -1), 7);
        Due.is("so none can be cut", none.cut(1, -1), -1);
    }

    // "each way with three times his weight: less the SLACK over a KNOT that is tied; the BOY there is TAKEN, if that is not
    // below the weight of this one, and it goes on with this weight less"
    private static void walkAtItsBounds() {
        int[] next = {1, 2, 3, 4};
        int[] due = {1 << 1 | 1 << 2, 1 << 1 | 1 << 2, 1 << 1, 0};
        for (int i = 0; i < next.length; i++) {
            String other = Texts.boy(1, next[i], 9, 0) + Texts.boy(2, 1, 9, 0);
            SleepRope up = Due.dorm(Texts.boy(0, 1, 9, 0) + other);
            Due.is("a weight of " + next[i], up.walk(0), due[i]);
            SleepRope down = Due.dorm(Texts.boy(2, 1, 9, 0) + Texts.boy(1, next[i], 9, 0) + Texts.boy(0, 1, 9, 0));
            Due.is("down, a weight of " + next[i], down.walk(2), due[i] == 6 ? 3 : due[i]);
        }
        SleepRope x = Due.dorm(Texts.boys(3, 1, 9, 0));
        int[] slacks = {0, 1, 2, 3, 4, 99};
        int[] taken = {6, 6, 2, 0, 0, 0};
        for (int i = 0; i < slacks.length; i++) {
            x.slack(0, slacks[i]);
            Due.is("SLACK " + slacks[i], x.walk(0), taken[i]);
        }
        x.slack(0, 0);
        int[] further = {6, 6, 2, 2, 2, 2};
        for (int i = 0; i < slacks.length; i++) {
            x.slack(1, slacks[i]);
            Due.is("SLACK further on " + slacks[i], x.walk(0), further[i]);
        }
        for (int place : new int[] {-1, 3, LEAST, GREATEST}) {
            Due.is("PLACE " + place, x.walk(place), -1);
        }
        Due.is("nobody is TAKEN indeed", x.at(0), 0);
        Due.nothingRefused(x);
    }

    private static void walkToTheEnds() {
        SleepRope x = Due.dorm(Texts.boys(11, 1, 9, 0) + Texts.boy(11, 99, 9, 0));
        Due.is("the heavy one, down to the first", x.walk(11), 2047);
        x.swap(5, 11);
        Due.is("both ways to the ends", x.walk(5), 4095 - 32);
        x.tie(4, false);
        Due.is("not where a KNOT is undone", x.walk(5), 4095 - 63);
        x.tie(5, false);
        Due.is("neither way", x.walk(5), 0);
        SleepRope one = Due.dorm(Texts.boy(0, 99, 9, 0));
        Due.is("one alone", one.walk(0), 0);
        SleepRope all = Due.dorm(GHOST + GHOST.replace("boy g", "boy h") + Texts.boy(0, 9, 9, 0));
        all.wake(0, true);
        all.wake(2, true);
        Due.is("ghosts and those awake, too", all.walk(1), 5);
    }

    // "BEDS that hold so much (1 .. 9999) ..; NONE when it can't be, a BOY is heavier than that, without BOYS, or for others."
    private static void bedsAtTheirBounds() {
        SleepRope x = Due.dorm(Texts.boy(0, 3, 9, 0) + Texts.boy(1, 4, 9, 0) + Texts.boy(2, 5, 9, 0) + Texts.boy(3, 2, 9, 0));
        int[] holds = {5, 6, 7, 8, 11, 12, 13, 14, 9999};
        int[] beds = {4, 4, 2, 2, 2, 2, 2, 1, 1};
        for (int i = 0; i < holds.length; i++) {
            Due.is("beds of " + holds[i], x.beds(holds[i], -1), beds[i]);
            Due.is("the first begins with the first", x.beds(holds[i], 0), 0);
            Due.is("behind the last of " + holds[i], x.beds(holds[i], beds[i]), -1);
        }
        Due.is("just full: 3 + 4", x.beds(7, 1), 2);
        Due.is("just full: 3 + 4 + 5", x.beds(12, 1), 3);
        Due.is("not full: 3 + 4", x.beds(11, 1), 2);
        Due.is("the last of four", x.beds(5, 3), 3);
        for (int hold : new int[] {4, 1, 0, -1, 10000, LEAST, GREATEST}) {
            Due.is("beds of " + hold, x.beds(hold, -1), -1);
            Due.is("first of beds of " + hold, x.beds(hold, 0), -1);
        }
        for (int k : new int[] {-2, 4, LEAST, GREATEST}) {
            Due.is("bed " + k, x.beds(5, k), -1);
        }
        Due.nothingRefused(x);
        SleepRope light = Due.dorm(Texts.boys(12, 1, 9, 0));
        Due.is("a bed for each", light.beds(1, -1), 12);
        Due.is("the last bed", light.beds(1, 11), 11);
        Due.is("all in one", light.beds(12, -1), 1);
        Due.is("one too many", light.beds(11, 1), 11);
        SleepRope last = Due.dorm(Texts.boys(11, 1, 9, 0) + Texts.boy(11, 99, 9, 0));
        Due.is("the last is heavier", last.beds(98, -1), -1);
        Due.is("though not in bed 0", last.beds(98, 0), -1);
        Due.is("just not heavier", last.beds(99, -1), 2);
        SleepRope none = new SleepRope();
        Due.is("without BOYS", none.beds(9, -1), -1);
        Due.is("bed 0 without BOYS", none.beds(9, 0), -1);
    }

    // ---- promise 35: nights

    // "n NIGHTS (1 .. 20) of so many MINUTES (1 .. 60) ..; NONE when something can't be, or without BOYS."
    private static void nightsAtTheirBounds() {
        SleepRope x = Due.dorm(Texts.boy(0, 1, 9, 100) + Texts.dream("d", 1, 1, 9, 1));
        int[] wrong = {0, -1, LEAST, GREATEST};
        for (int it : wrong) {
            Due.is(it + " NIGHTS", x.nights(it, 1, 0), -1);
            Due.is(it + " MINUTES", x.nights(1, it, 0), -1);
        }
        Due.is("21 NIGHTS", x.nights(21, 1, 0), -1);
        Due.is("61 MINUTES", x.nights(1, 61, 0), -1);
        for (int what : new int[] {-1, 3, LEAST, GREATEST}) {
            Due.is("what " + what, x.nights(1, 1, what), -1);
        }
        Due.is("nothing was drawn", x.has(11), 1);
        int[] was = Due.seen(x);
        int[][] due = {{1, 1}, {20, 1}, {1, 60}, {20, 60}};
        for (int[] it : due) {
            Due.is("TUGS of " + it[0] + " NIGHTS", x.nights(it[0], it[1], 0), it[0] * it[1]);
        }
        Due.is("none awake", x.nights(20, 60, 1), 0);
        Due.is("not all awake", x.nights(20, 60, 2), 0);
        was[10] = x.has(11);
        Due.stays("NIGHTS", x, was);
        Due.nothingRefused(x);
        SleepRope none = Due.dorm(Texts.dreams(1, 1, 1, 1, 1));
        for (int what = 0; what <= 2; what++) {
            Due.is("without BOYS", none.nights(1, 1, what), -1);
        }
        Due.nothingRefused(none);
    }

    // "(none beyond MINUTE 999)": of each NIGHT; none at all in MINUTE 999, where it answers all the same.
    private static void nightsUpTo999() {
        SleepRope x = Due.dorm(Texts.boy(0, 1, 9, 100) + Texts.dream("d", 1, 1, 9, 1));
        int[] minutes = {938, 939, 940, 998, 999};
        int[] tugs = {60, 60, 59, 1, 0};
        for (int i = 0; i < minutes.length; i++) {
            int[] image = Due.image(x);
            image[0] = minutes[i] / 256;
            image[1] = minutes[i] % 256;
            Due.is("on", Due.on(x, image), true);
            x.seed(5);
            Due.is("TUGS from MINUTE " + minutes[i], x.nights(20, 60, 0), 20 * tugs[i]);
            Due.is("the MINUTE stays", x.has(4), minutes[i]);
        }
        Due.is("no DRAW in MINUTE 999", x.has(11), 5);
        Due.is("none awake", x.nights(1, 1, 1), 0);
        x.wake(0, true);
        Due.is("one awake", x.nights(20, 1, 1), 20);
        Due.is("all awake", x.nights(20, 1, 2), 20);
    }

    // "nights at whose end all are awake who are no ghosts": one asleep is enough, be he the first or the last.
    private static void allAwakeAtTheEnd() {
        for (int asleep = 0; asleep < 4; asleep++) {
            SleepRope x = Due.dorm(Texts.boys(3, 1, 9, 0) + GHOST);
            for (int boy = 0; boy < 3; boy++) {
                if (boy != asleep) {
                    x.wake(boy, true);
                }
            }
            int awake = asleep == 3 ? 3 : 2;
            Due.is("all but " + asleep, x.nights(3, 2, 2), asleep == 3 ? 3 : 0);
            Due.is("awake at their ends", x.nights(3, 2, 1), 3 * awake);
            x.wake(3, true);
            Due.is("a ghost awake counts, too", x.nights(3, 2, 1), 3 * (awake + 1));
            Due.is("but changes nothing else", x.nights(3, 2, 2), asleep == 3 ? 3 : 0);
        }
        SleepRope ghosts = Due.dorm(GHOST);
        Due.is("none but ghosts", ghosts.nights(20, 60, 2), 20);
        Due.is("none of them awake", ghosts.nights(20, 60, 1), 0);
    }

    // ---- promises 36 to 39

    // MINUTE and FELT in "two bytes, the higher first"; "9999 at most are told".
    private static void imageOfTwoBytes() {
        SleepRope x = Due.dorm(Texts.boys(2, 1, 999, 0) + Texts.dream("d", 1, 1, 999, 1));
        for (int minute : new int[] {0, 1, 255, 256, 257, 511, 512, 767, 768, 998, 999}) {
            int[] image = Due.image(x);
            image[0] = minute / 256;
            image[1] = minute % 256;
            Due.is("on", Due.on(x, image), true);
            Due.is("MINUTE " + minute, x.has(4), minute);
            x.image();
            Due.is("the higher of " + minute, x.octet(0), minute / 256);
            Due.is("the lower of " + minute, x.octet(1), minute % 256);
        }
        SleepRope y = Due.dorm(Texts.boys(2, 1, 999, 0) + Texts.dream("d", 1, 1, 999, 1));
        for (int felt : new int[] {0, 254, 255, 510, 511, 9997, 9998, 9999}) {
            int[] image = Due.image(y);
            image[7] = felt / 256;
            image[8] = felt % 256;
            Due.is("on", Due.on(y, image), true);
            Due.is("FELT " + felt, y.boy(0, 10), felt);
            y.dreams(1, 0);
            Due.is("FELT one more than " + felt, y.boy(0, 10), felt + 1);
            y.image();
            int told = Math.min(9999, felt + 1);
            Due.is("the higher of " + told, y.octet(7), told / 256);
            Due.is("the lower of " + told, y.octet(8), told % 256);
            y.undo();
        }
    }

    // "AN IMAGE is written: how many bytes."; "Byte k of the latest image(); NONE when there is none such."
    private static void octetAtItsBounds() {
        SleepRope x = new SleepRope();
        for (int k : new int[] {-1, 0, 1, LEAST, GREATEST}) {
            Due.is("ahead of any " + k, x.octet(k), -1);
        }
        int[] boys = {12, 1, 2, 0};
        int[] bytes = {109, 10, 19, 3};
        for (int i = 0; i < boys.length; i++) {
            Due.tape(x, Texts.boys(boys[i], 1, 9, 0));
            x.dorm();
            if (i > 0) {
                Due.is("the latest stays behind dorm()", x.octet(bytes[i - 1] - 2) >= 0, true);
            }
            Due.is("bytes of " + boys[i], x.image(), bytes[i]);
            Due.is("the last", x.octet(bytes[i] - 1) >= 0, true);
            for (int k : new int[] {-1, bytes[i], 109, LEAST, GREATEST}) {
                Due.is("octet " + k + " of " + bytes[i], x.octet(k), -1);
            }
            Due.is("what an earlier one had", x.octet(bytes[0] - 1) >= 0, i == 0);
        }
        Due.nothingRefused(x);
    }

    // "1 if he is asleep, else 0, his DREAM and 1 (0 none), how many MINUTES more (0 none), by which he is CAUGHT and 1 (0
    // not)": at their least and greatest; "its SLACK".
    private static void imageAtItsGreatest() {
        SleepRope x = Due.dorm(Texts.boys(3, 1, 999, 0) + Texts.dreams(5, 1, 1, 999, 1) + Texts.dream("last", 999, 60, 998, 99)
            + Texts.slack(99, 0));
        x.slack(1, 1);
        x.wake(0, true);
        x.dreams(1, 5);
        x.tie(0, false);
        int[] due = {0, 0, 0, 0, 0, 0, 0, 0, 1, 1, 1, 6, 60, 0, 0, 0, 2, 1, 0, 0, 6, 0, 1, 0, 99, 1, 1};
        due[8] = 1;
        int[] image = Due.image(x);
        Due.is("bytes", image.length, 28);
        for (int k = 0; k < due.length; k++) {
            Due.is("byte " + k, image[k], due[k]);
        }
    }

    // "last a byte: all ahead from 89 on, c = (5 c + it) mod 251": an IMAGE with any other last byte is none.
    private static void theLastByte() {
        SleepRope x = null;
        int[] image = Due.image(Due.dorm(Texts.boy(0, 1, 9, 0)));
        int seal = 89;
        for (int k = 0; k < 9; k++) {
            seal = (5 * seal + image[k]) % 251;
        }
        Due.is("the last byte", image[9], seal);
        for (int last = 0; last <= 255; last++) {
            if (last % 64 == 0) {
                x = Due.dorm(Texts.boy(0, 1, 9, 0));
            }
            int[] other = image.clone();
            other[9] = last;
            Due.tape(x, other);
            Due.is("last byte " + last, x.on(), last == seal);
        }
    }

    private static void put(SleepRope x, int[] image, boolean due, int... changes) {
        int[] other = image.clone();
        StringBuilder s = new StringBuilder();
        for (int i = 0; i < changes.length; i += 2) {
            other[changes[i]] = changes[i + 1];
            s.append(" byte ").append(changes[i]).append(" as ").append(changes[i + 1]);
        }
        if (due) {
            Due.is("an IMAGE:" + s, Due.on(x, other), true);
            int[] back = Due.image(x);
            back[back.length - 1] = other[other.length - 1];
            Due.is("all is as it tells:" + s, java.util.Arrays.equals(back, other), true);
        } else {
            Due.refused(x, 5, "no IMAGE:" + s, () -> Due.on(x, other));
        }
    }

    // "each in one PLACE": BOYS of an IMAGE.
    private static void boysOfAnImage() {
        SleepRope x = Due.dorm(Texts.boys(3, 1, 9, 0));
        int[] image = Due.image(x);
        int[][] orders = {{0, 1, 2}, {0, 2, 1}, {1, 0, 2}, {1, 2, 0}, {2, 0, 1}, {2, 1, 0}};
        for (int[] it : orders) {
            put(x, image, true, 2, it[0], 9, it[1], 16, it[2]);
        }
        int[][] wrong = {{0, 0, 1}, {0, 1, 0}, {1, 0, 0}, {2, 2, 2}, {0, 1, 3}, {3, 1, 2}, {0, 255, 2}, {1, 1, 2}};
        for (int[] it : wrong) {
            put(x, image, false, 2, it[0], 9, it[1], 16, it[2]);
        }
    }

    // "MINUTE 999 at most; 0 or 1 as told; .. FELT 9999 at most; SLACK 99 at most."
    private static void numbersOfAnImage() {
        SleepRope x = Due.dorm(Texts.boys(2, 1, 9, 0));
        int[] image = Due.image(x);
        put(x, image, true, 0, 3, 1, 231);
        put(x, image, false, 0, 3, 1, 232);
        put(x, image, false, 0, 4, 1, 0);
        put(x, image, false, 0, 255, 1, 255);
        for (int from : new int[] {3, 10, 16}) {
            put(x, image, true, from, 0);
            put(x, image, true, from, 1);
            put(x, image, false, from, 2);
            put(x, image, false, from, 255);
        }
        for (int from : new int[] {7, 14}) {
            put(x, image, true, from, 39, from + 1, 15);
            put(x, image, false, from, 39, from + 1, 16);
            put(x, image, false, from, 40, from + 1, 0);
        }
        put(x, image, true, 17, 99);
        put(x, image, false, 17, 100);
        put(x, image, false, 17, 255);
    }

    // "DREAMS that there are; a DREAM with 1 MINUTE more to as many as it lasts, none with 0; DREAM and CAUGHT only of one
    // asleep and no ghost, not both"
    private static void dreamsOfAnImage() {
        SleepRope x = Due.dorm(Texts.boy(0, 1, 9, 0) + GHOST + Texts.dream("d", 1, 1, 1, 1) + Texts.dream("e", 1, 60, 1, 1));
        int[] image = Due.image(x);
        int[][] good = {{4, 0, 5, 0}, {4, 1, 5, 1}, {4, 2, 5, 1}, {4, 2, 5, 60}, {6, 1}, {6, 2}, {3, 0}, {10, 0}};
        for (int[] it : good) {
            put(x, image, true, it);
        }
        int[][] wrong = {{4, 0, 5, 1}, {4, 0, 5, 255}, {4, 1, 5, 0}, {4, 1, 5, 2}, {4, 2, 5, 0}, {4, 2, 5, 61}, {4, 3, 5, 1},
            {4, 255, 5, 1}, {4, 3, 5, 0}, {6, 3}, {6, 255}, {4, 1, 5, 1, 6, 1}, {4, 1, 5, 1, 6, 2}, {4, 1, 5, 1, 3, 0}};
        for (int[] it : wrong) {
            put(x, image, false, it);
        }
        // Of one awake, of a ghost.
        put(x, image, false, 6, 1, 3, 0);
        put(x, image, false, 11, 1, 12, 1);
        put(x, image, false, 13, 1);
        put(x, image, false, 11, 1, 12, 1, 10, 0);
        put(x, image, false, 13, 1, 10, 0);
        SleepRope none = Due.dorm(Texts.boy(0, 1, 9, 0));
        int[] without = Due.image(none);
        put(none, without, false, 4, 1, 5, 1);
        put(none, without, false, 6, 1);
        put(none, without, true, 4, 0);
    }

    // "with as many BOYS": any other number of bytes is none, be the last one as it must.
    private static void lengthOfAnImage() {
        for (int boys : new int[] {0, 1, 2, 12}) {
            SleepRope x = Due.dorm(Texts.boys(boys, 1, 9, 0));
            int[] image = Due.image(x);
            for (int more : new int[] {-9, -2, -1, 1, 2, 9}) {
                int length = image.length + more;
                if (length > 0) {
                    Due.refused(x, 5, length + " bytes", () -> Due.on(x, java.util.Arrays.copyOf(image, length)));
                }
            }
            x.end(0);
            Due.refused(x, 5, "no bytes", x::on);
            Due.is("just so many", Due.on(x, image), true);
        }
    }

    // "false, refused (5), if it is none such", and "all staying"; the last thing that is wrong is enough.
    private static void allStaysWithoutAnImage() {
        SleepRope x = Due.dorm(Texts.boys(3, 1, 99, 50) + Texts.dream("d", 9, 9, 9, 1) + Texts.slack(3, 1));
        int[] image = Due.image(x);
        x.go(5);
        x.swap(0, 1);
        Due.hear(x, 1, 2, 3);
        int[] was = Due.seen(x);
        image[0] = 1;
        image[2] = 2;
        image[16] = 0;
        image[26] = 100;
        Due.refused(x, 5, "SLACK of the last KNOT", () -> Due.on(x, image));
        Due.stays("it", x, was);
        image[26] = 9;
        Due.is("an IMAGE", Due.on(x, image), true);
        Due.is("MINUTE", x.has(4), 256);
        Due.is("PLACE 0", x.at(0), 2);
        Due.is("SLACK", x.knot(1, 1), 9);
    }

    // "(no TUGS are told, greatest forces and all together are 0, .., no ACT can be undone; the ROOT of a CAUGHT one's TUG is
    // the TUG itself then)"
    private static void whatAnImageDoesNotTell() {
        SleepRope x = Due.dorm(Texts.boys(3, 1, 99, 0) + Texts.dream("d", 9, 9, 8, 1));
        x.seed(44);
        x.go(2);
        x.dreams(0, 0);
        int[] image = Due.image(x);
        x.go(7);
        Due.is("on", Due.on(x, image), true);
        Due.is("no TUGS", x.has(8), 0);
        Due.is("no TUG 0", x.tug(0, 0), -1);
        Due.is("no ACTS", x.has(9), 0);
        Due.refused(x, 4, "undo", x::undo);
        Due.is("CAUGHT", x.boy(1, 9), 0);
        Due.is("CAUGHT, too", x.boy(2, 9), 0);
        for (int boy = 0; boy < 3; boy++) {
            Due.is("FELT", x.boy(boy, 10), boy == 0 ? 0 : 1);
            Due.is("no greatest", x.boy(boy, 11), 0);
            Due.is("none together", x.boy(boy, 12), 0);
        }
        int seed = x.has(11);
        Due.is("both begin", x.go(1), 2);
        Due.is("one DRAW for nobody", x.has(11), seed);
        int[][] due = {{2, 1, 0, 2, 1}, {2, 2, 0, 2, 2}};
        for (int k = 0; k < 2; k++) {
            for (int what = 0; what < 5; what++) {
                Due.is("TUG " + k + " what " + what, x.tug(k, what), due[k][what]);
            }
        }
        Due.is("greatest of what came since", x.boy(1, 11), 9);
    }

    // "How many were refused: 0 feed(), end(); .. 5 seed(), on(). NONE for others."
    private static void statusAtItsBounds() {
        SleepRope x = new SleepRope();
        for (int what : new int[] {-1, 6, LEAST, GREATEST}) {
            Due.is("status " + what, x.status(what), -1);
        }
        for (int k = 1; k <= 3; k++) {
            x.end(-1);
            x.hear();
            x.go(0);
            x.dreams(0, 0);
            x.wake(0, true);
            x.tie(0, true);
            x.slack(0, 0);
            x.swap(0, 0);
            x.lay();
            x.undo();
            x.seed(-1);
            x.on();
            int[] due = {k, k, 3 * k, 4 * k, k, 2 * k};
            for (int what = 0; what < 6; what++) {
                Due.is("status " + what, x.status(what), due[what]);
            }
        }
        // They are kept, whatever comes: a DORM, ACTS undone, an IMAGE.
        Due.tape(x, Texts.boys(2, 1, 9, 0));
        x.dorm();
        x.slack(0, 100);
        x.slack(0, 9);
        x.undo();
        Due.on(x, Due.image(x));
        Due.is("kept", x.status(3), 13);
        Due.is("kept, too", x.status(5), 6);
    }

    public static void main(String[] args) {
        feelsAtItsBounds();
        wakesAtItsBounds();
        leastAtItsBounds();
        leastThroughOneWhoWakes();
        badnessAtItsBounds();
        bestAtItsBounds();
        exchangeAtItsBounds();
        likeExchanges();
        exchangeOfTwelve();
        layAtItsBounds();
        twoAtItsBounds();
        allOthersOnTheSecond();
        ordersFollowTheState();
        ordersOfStatesThatAreLeft();
        hearAtItsBounds();
        heardForces();
        eachPlaceCounts();
        pulledAtItsBounds();
        twelveMayHave();
        heardSince();
        cutAtItsBounds();
        cutOfTheTied();
        walkAtItsBounds();
        walkToTheEnds();
        bedsAtTheirBounds();
        nightsAtTheirBounds();
        nightsUpTo999();
        allAwakeAtTheEnd();
        imageOfTwoBytes();
        octetAtItsBounds();
        imageAtItsGreatest();
        theLastByte();
        boysOfAnImage();
        numbersOfAnImage();
        dreamsOfAnImage();
        lengthOfAnImage();
        allStaysWithoutAnImage();
        whatAnImageDoesNotTell();
        statusAtItsBounds();
        Due.end();
    }
}
