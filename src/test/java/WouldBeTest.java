/** Promises 22 to 29: what would be. */
public final class WouldBeTest {
    // c is a ghost: all of it goes by him.
    private static final String FOUR = "boy a weight 2 depth 10 odds 10 pulls 1;boy b weight 3 depth 15 odds 20 pulls 2;"
        + "boy c weight 4 depth 5 odds 90 pulls 3 ghost;boy d weight 5 depth 8 odds 30 pulls 4;slack 1 at 0;slack 2 at 2;";

    private WouldBeTest() {
    }

    private static void feels() {
        SleepRope x = Due.dorm(FOUR);
        Due.is("next", x.feels(0, 10, 1), 9);
        Due.is("less his weight", x.feels(0, 10, 2), 6);
        Due.is("less slack alone by a ghost", x.feels(0, 10, 3), 4);
        Due.is("down", x.feels(3, 10, 0), 4);
        Due.is("who wakes passes nothing", x.feels(0, 17, 2), 0);
        Due.is("who wakes feels", x.feels(0, 17, 1), 16);
        Due.is("just not woken", x.feels(0, 16, 1), 15);
        Due.is("he passes on", x.feels(0, 16, 2), 12);
        Due.is("slack takes all", x.feels(0, 1, 1), 0);
        Due.is("weight takes all", x.feels(0, 4, 2), 0);
        Due.is("one place", x.feels(1, 10, 1), -1);
        Due.is("place 4", x.feels(0, 10, 4), -1);
        Due.is("place -1", x.feels(0, 10, -1), -1);
        Due.is("from 4", x.feels(4, 10, 0), -1);
        Due.is("from -1", x.feels(-1, 10, 0), -1);
        Due.is("force 0", x.feels(0, 0, 1), -1);
        Due.is("force 10000", x.feels(0, 10000, 1), -1);
        Due.is("force 9999", x.feels(0, 9999, 1), 9998);
        Due.is("nothing is done", x.boy(1, 10), 0);
        x.wake(1, true);
        Due.is("one awake passes nothing", x.feels(0, 10, 2), 0);
        Due.is("but feels", x.feels(0, 10, 1), 9);
        x.wake(2, true);
        Due.is("a ghost awake passes all", x.feels(3, 10, 1), 8);
        x.tie(1, false);
        Due.is("where it is undone it ends", x.feels(3, 10, 1), 0);
        Due.is("and ahead of it goes on", x.feels(3, 10, 2), 8);
    }

    private static void wakes() {
        SleepRope x = Due.dorm(FOUR);
        Due.is("b", x.wakes(0, 17), 2);
        Due.is("d alone, no ghost", x.wakes(0, 16), 8);
        Due.is("none", x.wakes(0, 10), 0);
        Due.is("both ways", x.wakes(1, 20), 1 + 8);
        Due.is("place 4", x.wakes(4, 20), -1);
        Due.is("place -1", x.wakes(-1, 20), -1);
        Due.is("force 0", x.wakes(0, 0), -1);
        Due.is("force 10000", x.wakes(0, 10000), -1);
        x.wake(0, true);
        Due.is("who is awake does not wake", x.wakes(1, 20), 8);
        Due.is("nothing is done", x.boy(3, 6), 1);
    }

    private static void least() {
        SleepRope x = Due.dorm(FOUR);
        Due.is("b above 15 + 1", x.least(0, 1), 17);
        Due.is("d above 8 + 2 + 3 + 1", x.least(0, 3), 15);
        Due.is("a ghost", x.least(0, 2), -1);
        Due.is("a from d: 10, 1, 3, 2 above", x.least(3, 0), 17);
        Due.is("one place", x.least(1, 1), -1);
        Due.is("place 4", x.least(0, 4), -1);
        Due.is("from -1", x.least(-1, 0), -1);
        x.slack(0, 99);
        Due.is("b wakes ahead", x.least(3, 0), -1);
        x.wake(3, true);
        Due.is("one awake", x.least(0, 3), -1);
        Due.is("place -1", x.least(0, -1), -1);
        Due.is("from 4", x.least(4, 0), -1);
        SleepRope z = Due.dorm("boy a weight 1 depth 1 odds 1 pulls 0;boy b weight 1 depth 1 odds 1 pulls 0;"
            + "deep 0-5 when force<2;");
        Due.is("1 wakes", z.least(0, 1), 1);
        SleepRope y = Due.dorm("boy a weight 1 depth 1 odds 1 pulls 0;boy b weight 1 depth 1 odds 1 pulls 0;"
            + "deep 9998 when all;");
        Due.is("9999 wakes", y.least(0, 1), 9999);
        y.slack(0, 1);
        Due.is("9998 does not", y.least(0, 1), -1);
    }

    private static final String ORDER = "boy a weight 1 depth 50 odds 10 pulls 0;boy b weight 9 depth 50 odds 0 pulls 0;"
        + "boy c weight 1 depth 8 odds 20 pulls 0;dream d tug 10 lasts 1 passes 1 odds 3;";

    private static void badness() {
        // a's 10 comes to b, 1 of it to c; in the order a, c, b it is 10 that comes to c.
        SleepRope x = Due.dorm(ORDER);
        Due.is("none wakes", x.bad(), 0);
        x.swap(1, 2);
        Due.is("c wakes by a", x.bad(), 10 * 3);
        x.wake(2, true);
        x.wake(0, true);
        x.go(3);
        Due.is("all asleep, minute 0", x.bad(), 30);
        Due.is("without boys", new SleepRope().bad(), 0);
        SleepRope y = Due.dorm("boy a weight 1 depth 5 odds 100 pulls 0 ghost;boy b weight 1 depth 5 odds 7 pulls 0;"
            + "boy c weight 1 depth 1 odds 0 pulls 0;dream d tug 6 lasts 1 passes 1 odds 3;"
            + "dream e tug 5 lasts 1 passes 1 odds 10;deep depth+felt+minute*9 when all;");
        // A ghost neither wakes nor counts: b wakes c by both.
        Due.is("dream by dream", y.bad(), 7 * 3 + 7 * 10);
        y.dreams(2, 0);
        y.go(2);
        Due.is("nothing felt", y.bad(), 91);
        y.tie(1, false);
        Due.is("knots as they are", y.bad(), 0);
    }

    private static void best() {
        // Of two like orders the first by numbers: a, b, c.
        SleepRope x = Due.dorm(ORDER);
        x.swap(0, 2);
        Due.is("best", x.best(-1), 0);
        for (int k = 0; k < 3; k++) {
            Due.is("best " + k, x.best(k), k);
        }
        Due.is("best 3", x.best(3), -1);
        Due.is("best -2", x.best(-2), -1);
        Due.is("without boys", new SleepRope().best(-1), -1);
        SleepRope y = Due.dorm("boy a weight 1 depth 8 odds 10 pulls 0;boy b weight 9 depth 50 odds 0 pulls 0;"
            + "boy c weight 1 depth 50 odds 20 pulls 0;dream d tug 12 lasts 1 passes 1 odds 3;slack 9 at 0;");
        // a must lie behind slack 9 or behind b: a, b, c does it, being the first of all.
        Due.is("the first of all", y.best(0), 0);
        y.slack(0, 0);
        y.slack(1, 9);
        // The same: b, of weight 9, leaves but 3 of the 12.
        Due.is("still", y.best(1), 1);
        StringBuilder seven = new StringBuilder();
        for (int i = 0; i < 7; i++) {
            seven.append("boy ").append((char) ('p' + i)).append(" weight 1 depth 50 odds 0 pulls 0;");
        }
        Due.is("more than 6", Due.dorm(seven.toString()).best(-1), -1);
        Due.is("7 by exchanges", Due.dorm(seven.toString()).exchange(-1), 0);
        Due.is("two of 7", Due.dorm(seven.toString()).two(0), 0);
    }

    private static void oneBoy() {
        SleepRope x = Due.dorm("boy a weight 1 depth 8 odds 10 pulls 0;dream d tug 12 lasts 1 passes 1 odds 3;");
        Due.is("best of one", x.best(-1), 0);
        Due.is("the one", x.best(0), 0);
        Due.is("no other", x.best(1), -1);
        Due.is("exchange of one", x.exchange(-1), 0);
        Due.is("none", x.exchange(20), 0);
        Due.is("he", x.exchange(0), 0);
        Due.is("not", x.exchange(1), -1);
        Due.is("lay", x.lay(), 0);
        Due.is("bad", x.bad(), 0);
    }

    // Each pulls 20 and wakes all up to a Slack of 20; who lies first and last wakes nobody, the others all differ.
    private static void bestOfSix() {
        StringBuilder s = new StringBuilder("dream d tug 9 lasts 1 passes 1 odds 1;pass 0 when all;deep 0 when place=0 or place=5;"
            + "deep 999 when all;");
        int[] odds = {7, 3, 9, 4, 8, 5};
        for (int i = 0; i < 6; i++) {
            s.append("boy ").append((char) ('p' + i)).append(" weight 1 depth 5 odds ").append(odds[i])
                .append(" pulls 0;");
        }
        SleepRope x = Due.dorm(s.toString());
        // Those in 1 and 4 wake one each: b (3) and d (4) must lie there; the others by numbers.
        int[] best = {0, 1, 2, 4, 3, 5};
        Due.is("3 and 4", x.best(-1), 7);
        for (int k = 0; k < 6; k++) {
            Due.is("best of six " + k, x.best(k), best[k]);
        }
        x.swap(0, 5);
        x.swap(1, 3);
        for (int k = 0; k < 6; k++) {
            Due.is("from whatever order " + k, x.best(k), best[k]);
        }
        x.tie(4, false);
        Due.is("knots as they are", x.best(-1), 3);
        Due.is("b alone", x.best(1), 1);
        Due.is("then by numbers", x.best(3), 3);
        // By EXCHANGES, from f d c b e a on: d, in 1, and b, whom it is best to bring there.
        Due.is("an exchange", x.exchange(20), 1);
        Due.is("b in 1", x.exchange(1), 1);
        Due.is("d in 3", x.exchange(3), 3);
        x.undo();
        Due.is("two wake one each", x.bad(), 4 + 8);
        Due.is("lay at once", x.lay(), 1);
        Due.is("least of all", x.bad(), 7);
        int[] laid = {5, 3, 2, 4, 1, 0};
        for (int k = 0; k < 6; k++) {
            Due.is("laid " + k, x.at(k), laid[k]);
        }
    }

    private static void exchanges() {
        SleepRope x = Due.dorm(ORDER);
        x.swap(1, 2);
        // a, c, b is 30. (0,1) c, a, b: a still wakes c. (0,2) b, c, a likewise. (1,2) a, b, c: none.
        Due.is("badness at last", x.exchange(-1), 0);
        Due.is("exchanges", x.exchange(20), 1);
        Due.is("place 1", x.exchange(1), 1);
        Due.is("place 2", x.exchange(2), 2);
        Due.is("place 3", x.exchange(3), -1);
        Due.is("19", x.exchange(19), -1);
        Due.is("21", x.exchange(21), -1);
        Due.is("-2", x.exchange(-2), -1);
        Due.is("nothing is done", x.at(1), 2);
        x.wake(2, true);
        x.dreams(1, 0);
        Due.is("lay", x.lay(), 1);
        Due.is("b in 1", x.at(1), 1);
        Due.is("c in 2", x.at(2), 2);
        Due.is("with what they have", x.boy(1, 8), 1);
        Due.is("awake as he was", x.boy(2, 6), 0);
        Due.is("an act", x.has(9), 4);
        Due.is("none then", x.exchange(20), 0);
        Due.is("lay again", x.lay(), 0);
        Due.is("no act", x.has(9), 4);
        x.undo();
        Due.is("undone", x.at(1), 2);
        Due.is("and again", x.exchange(20), 1);
        SleepRope none = new SleepRope();
        Due.is("exchange without boys", none.exchange(-1), -1);
        Due.is("exchange 20 without boys", none.exchange(20), -1);
        Due.is("lay without boys", none.lay(), -1);
        Due.is("refused", none.status(3), 1);
    }

    private static void firstOfLikeExchanges() {
        // d (odds 10) wakes whoever is next of a, b, c: apart by none of them; the ghosts g and h are quiet neighbours.
        SleepRope x = Due.dorm("boy a weight 99 depth 1 odds 0 pulls 0;boy d weight 99 depth 999 odds 10 pulls 0;"
            + "boy g weight 99 depth 999 odds 0 pulls 0;boy h weight 99 depth 999 odds 0 pulls 0;"
            + "dream e tug 10 lasts 1 passes 1 odds 1;");
        Due.is("a wakes", x.bad(), 10);
        // (0,1) is no help; (0,2) and (0,3), (1,2)? g, d, a: no; (0,3) h, d, g, a: yes; it is the first.
        Due.is("one exchange", x.exchange(20), 1);
        Due.is("place 0", x.exchange(0), 3);
        Due.is("place 3", x.exchange(3), 0);
    }

    private static void two() {
        // In one rope a wakes c (30). c alone on the second: none. b there: a, c is 30. b and c there: b 9, c alone wakes.
        SleepRope x = Due.dorm(ORDER);
        x.swap(1, 2);
        Due.is("badness", x.two(0), 0);
        Due.is("c on the second", x.two(1), 4);
        Due.is("what 2", x.two(2), -1);
        Due.is("what -1", x.two(-1), -1);
        SleepRope y = Due.dorm(ORDER);
        Due.is("none on the second", y.two(1), 0);
        y.swap(0, 2);
        y.swap(1, 2);
        // c, a, b: not c, who lies in place 0; a alone is the least.
        Due.is("not the one in place 0", y.two(1), 1);
        Due.is("one boy", Due.dorm("boy a weight 1 depth 1 odds 1 pulls 0;").two(0), -1);
        SleepRope both = Due.dorm("boy a weight 1 depth 1 odds 1 pulls 0;boy b weight 1 depth 1 odds 1 pulls 0;"
            + "dream d tug 9 lasts 1 passes 1 odds 1;");
        Due.is("two boys wake each other", both.bad(), 2);
        Due.is("apart they don't", both.two(0), 0);
        Due.is("b on the second", both.two(1), 2);
        both.swap(0, 1);
        Due.is("a on the second", both.two(1), 1);
        Due.is("without boys", new SleepRope().two(0), -1);
        StringBuilder nine = new StringBuilder();
        for (int i = 0; i < 9; i++) {
            nine.append("boy ").append((char) ('p' + i)).append(" weight 1 depth 50 odds 0 pulls 0;");
            if (i == 7) {
                Due.is("eight boys", Due.dorm(nine.toString()).two(1), 0);
            }
        }
        Due.is("nine boys", Due.dorm(nine.toString()).two(0), -1);
        // Knots of these numbers on both: with knot 0 undone a and c may lie side by side.
        y.tie(0, false);
        Due.is("knot 0 is undone", y.bad(), 0);
        Due.is("so none", y.two(1), 0);
        // place is that on his rope: c sleeps light in places above 0 alone.
        SleepRope z = Due.dorm("boy a weight 1 depth 50 odds 1 pulls 0;boy b weight 1 depth 50 odds 0 pulls 0;"
            + "boy c weight 1 depth 50 odds 1 pulls 0;dream d tug 10 lasts 1 passes 1 odds 1;deep 3 when place=2;");
        Due.is("in place 2 he wakes", z.bad(), 1);
        Due.is("on a second one none does", z.two(0), 0);
        Due.is("b there makes c's place 1", z.two(1), 2);
    }

    public static void main(String[] args) {
        feels();
        wakes();
        least();
        badness();
        best();
        oneBoy();
        bestOfSix();
        exchanges();
        firstOfLikeExchanges();
        two();
        Due.end();
    }
}
