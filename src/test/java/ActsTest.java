/** Promises 6, 8 to 12 and 14 to 21: what there is, MINUTES, ACTS. */
public final class ActsTest {
    // From a: b comes to feel 19 (wakes above 30), then 19 - 4 - 2 = 13 comes to c.
    private static final String THREE = "boy a weight 2 depth 10 odds 0 pulls 1;boy b weight 4 depth 30 odds 0 pulls 2 snores;"
        + "boy c weight 6 depth 50 odds 0 pulls 3;slack 1 at 0;slack 2 at 1;";
    private static final String D = "dream d tug 20 lasts 3 passes 13 odds 2;dream e tug 60 lasts 1 passes 99 odds 3;";

    private ActsTest() {
    }

    private static void whatThereIs() {
        SleepRope x = Due.dorm(THREE + D + "pass 1 when 1=2;slack 99 at 10;slack 5 at 1;slack 2 at 1;");
        int[] has = {3, 2, 1, 2, 0, 3, 0, 0, 0, 0, 1, 1};
        for (int what = 0; what < has.length; what++) {
            Due.is("has " + what, x.has(what), has[what]);
        }
        Due.is("has 12", x.has(12), -1);
        Due.is("has -1", x.has(-1), -1);
        int[] boy = {4, 30, 0, 2, 1, 1, 1, -1, 0, -1, 0, 0, 0};
        for (int what = 0; what < boy.length; what++) {
            Due.is("boy 1 " + what, x.boy(1, what), boy[what]);
        }
        Due.is("boy 1 13", x.boy(1, 13), -1);
        Due.is("boy 1 -1", x.boy(1, -1), -1);
        Due.is("boy 3", x.boy(3, 0), -1);
        Due.is("boy -1", x.boy(-1, 0), -1);
        Due.is("at 2", x.at(2), 2);
        Due.is("at 3", x.at(3), -1);
        Due.is("at -1", x.at(-1), -1);
        Due.is("the last slack of a knot counts", x.knot(1, 1), 2);
        Due.is("tied", x.knot(1, 0), 1);
        Due.is("no knot 2", x.knot(2, 0), -1);
        Due.is("no knot 10", x.knot(10, 1), -1);
        Due.is("no knot -1", x.knot(-1, 0), -1);
        Due.is("knot 3", x.knot(1, 3), -1);
        Due.is("knot what -1", x.knot(1, -1), -1);
        int[] dream = {60, 1, 99, 3, 0};
        for (int what = 0; what < dream.length; what++) {
            Due.is("dream 1 " + what, x.dream(1, what), dream[what]);
        }
        Due.is("dream 1 5", x.dream(1, 5), -1);
        Due.is("dream 1 -1", x.dream(1, -1), -1);
        Due.is("no dream 2", x.dream(2, 0), -1);
        Due.is("no dream -1", x.dream(-1, 0), -1);
    }

    private static void strain() {
        SleepRope x = Due.dorm(THREE);
        Due.is("strain of the last", x.knot(1, 2), 3);
        Due.is("strain of the first", x.knot(0, 2), 2 + 1);
        x.slack(1, 3);
        Due.is("slack takes it all", x.knot(0, 2), 2);
        x.slack(1, 4);
        Due.is("not below 0", x.knot(0, 2), 2);
        x.slack(1, 0);
        Due.is("without slack", x.knot(0, 2), 5);
        x.slack(0, 99);
        Due.is("his own slack takes nothing", x.knot(0, 2), 5);
        x.tie(1, false);
        Due.is("undone", x.knot(1, 2), 0);
        Due.is("below one undone", x.knot(0, 2), 2);
        x.tie(1, true);
        x.wake(2, true);
        Due.is("one awake pulls nothing", x.knot(1, 2), 0);
        x.swap(0, 2);
        Due.is("by places", x.knot(1, 2), 1);
    }

    private static void pieces() {
        SleepRope x = Due.dorm(THREE);
        x.tie(0, false);
        Due.is("two pieces", x.has(10), 2);
        Due.is("one tied", x.has(3), 1);
        x.tie(1, false);
        Due.is("three pieces", x.has(10), 3);
        Due.is("none tied", x.has(3), 0);
    }

    private static void dreamsByHand() {
        SleepRope x = Due.dorm(THREE + D);
        Due.is("none wakes by it", x.dreams(0, 0), 0);
        Due.is("has it", x.boy(0, 7), 0);
        Due.is("so long", x.boy(0, 8), 3);
        Due.is("b felt 19", x.boy(1, 11), 19);
        Due.is("c felt 13", x.boy(2, 11), 13);
        Due.is("a felt nothing", x.boy(0, 10), 0);
        Due.is("b is caught", x.boy(1, 9), 0);
        Due.is("c is caught by just 13", x.boy(2, 9), 0);
        Due.is("two caught", x.has(7), 2);
        Due.is("one dreams", x.has(6), 1);
        Due.is("one has this dream", x.dream(0, 4), 1);
        Due.is("none has that", x.dream(1, 4), 0);
        Due.is("who has one can't", x.dreams(0, 1), -1);
        // The caught one begins another, by hand: he is caught no more. c wakes by 60 - 2.
        Due.is("c wakes", x.dreams(1, 1), 2);
        Due.is("b caught no more", x.boy(1, 9), -1);
        Due.is("c awake, not caught", x.boy(2, 9), -1);
        Due.is("c is awake", x.boy(2, 6), 0);
        Due.is("c felt two", x.boy(2, 10), 2);
        Due.is("c's greatest", x.boy(2, 11), 58);
        Due.is("c's together", x.boy(2, 12), 71);
        Due.is("a lost his dream", x.boy(0, 7), -1);
        Due.is("a has no minutes", x.boy(0, 8), 0);
        Due.is("one asleep", x.has(5), 1);
        Due.is("one awake can't", x.dreams(2, 0), -1);
        Due.is("no boy 3", x.dreams(3, 0), -1);
        Due.is("no boy -1", x.dreams(-1, 0), -1);
        Due.is("no dream 2", x.dreams(1, 2), -1);
        Due.is("no dream -1", x.dreams(1, -1), -1);
        Due.is("refused", x.status(2), 6);
        Due.is("acts", x.has(9), 2);
        SleepRope y = Due.dorm("boy a weight 1 depth 5 odds 9 pulls 0 ghost;boy b weight 1 depth 5 odds 0 pulls 0;" + D);
        Due.is("a ghost can't", y.dreams(0, 0), -1);
        Due.is("refused ghost", y.status(2), 1);
        y.dreams(1, 0);
        Due.is("a ghost feels", y.boy(0, 10), 1);
        Due.is("a ghost sleeps on", y.boy(0, 6), 1);
        Due.is("a ghost is not caught", y.boy(0, 9), -1);
    }

    private static void roots() {
        SleepRope x = Due.dorm(THREE + D);
        x.go(2);
        x.dreams(1, 0);
        // b's tug of 20: a feels 19, wakes above 10; c feels 18: caught. c begins it a minute later.
        Due.is("a is awake", x.boy(0, 6), 0);
        Due.is("c is caught", x.boy(2, 9), 0);
        Due.is("one tug in a minute", x.go(1), 1);
        Due.is("c has it", x.boy(2, 7), 0);
        Due.is("c has it two more", x.boy(2, 8), 2);
        Due.is("c is caught no more", x.boy(2, 9), -1);
        tug(x, 0, 2, 1, 0, 2, 1);
        tug(x, 1, 2, 2, 0, 2, 1);
        Due.is("no tug 2", x.tug(2, 0), -1);
        Due.is("no tug -1", x.tug(-1, 0), -1);
        Due.is("tug 5", x.tug(0, 5), -1);
        Due.is("tug what -1", x.tug(0, -1), -1);
        // b's own dream has one minute more; then c's tug may catch him again.
        Due.is("b has one more", x.boy(1, 8), 2);
        x.go(2);
        Due.is("b has none", x.boy(1, 7), -1);
        Due.is("c has none", x.boy(2, 7), -1);
        x.wake(0, false);
        // b feels 18 and is caught, a feels 18 - 4 - 1 = 13 and wakes.
        Due.is("by hand in minute 5", x.dreams(2, 0), 1);
        Due.is("b is caught", x.boy(1, 9), 0);
        Due.is("minute 5", x.has(4), 5);
        x.go(1);
        tug(x, 2, 5, 2, 0, 5, 2);
        tug(x, 3, 5, 1, 0, 5, 2);
    }

    private static void tug(SleepRope x, int k, int... due) {
        for (int what = 0; what < due.length; what++) {
            Due.is("tug " + k + " " + what, x.tug(k, what), due[what]);
        }
    }

    private static void chains() {
        // Each tug reaches but the next ones: caught above in the same minute, below in the next.
        StringBuilder s = new StringBuilder("dream d tug 10 lasts 9 passes 1 odds 1;");
        for (int i = 0; i < 5; i++) {
            s.append("boy ").append((char) ('p' + i)).append(" weight 20 depth 50 odds 0 pulls 0;");
        }
        SleepRope x = Due.dorm(s.toString());
        x.dreams(2, 0);
        Due.is("two are caught", x.has(7), 2);
        // q (place 1) begins it and catches p; s (place 3) begins it and catches t, who begins it in the same minute.
        Due.is("three tugs", x.go(1), 3);
        Due.is("p is caught", x.boy(0, 9), 0);
        Due.is("t has it", x.boy(4, 7), 0);
        tug(x, 1, 0, 1, 0, 0, 2);
        tug(x, 2, 0, 3, 0, 0, 2);
        tug(x, 3, 0, 4, 0, 0, 2);
        Due.is("p begins", x.go(1), 1);
        tug(x, 4, 1, 0, 0, 0, 2);
        Due.is("all dream", x.has(6), 5);
    }

    private static void draws() {
        // The first DRAW from seed 1 is 1103527590 / 64 mod 100 = 18, the second 377401575 / 64 = 5896899.
        String dreams = "dream d tug 1 lasts 2 passes 1 odds 4;dream e tug 1 lasts 2 passes 1 odds 1;";
        SleepRope x = Due.dorm("boy a weight 1 depth 9 odds 18 pulls 0;" + dreams);
        Due.is("18 is not below 18", x.go(1), 0);
        Due.is("one draw", x.has(11), 1103527590);
        x = Due.dorm("boy a weight 1 depth 9 odds 19 pulls 0;" + dreams);
        Due.is("18 is below 19", x.go(1), 1);
        Due.is("two draws", x.has(11), 377401575);
        Due.is("4 of 5 is the second", x.boy(0, 7), 1);
        Due.is("one minute more", x.boy(0, 8), 1);
        tug(x, 0, 0, 0, 1, 0, 0);
        Due.is("who has one draws not", x.go(1), 0);
        Due.is("no draw", x.has(11), 377401575);
        Due.is("it has ended", x.boy(0, 7), -1);
        x = Due.dorm("boy a weight 1 depth 9 odds 19 pulls 0;dream d tug 1 lasts 2 passes 1 odds 5;"
            + "dream e tug 1 lasts 2 passes 1 odds 1;");
        x.go(1);
        Due.is("5896899 mod 6 is 3: the first", x.boy(0, 7), 0);
        x = Due.dorm("boy a weight 1 depth 9 odds 100 pulls 0;");
        Due.is("without dreams", x.go(1), 0);
        Due.is("a draw of 100 all the same", x.has(11), 1103527590);
        x = Due.dorm("boy a weight 1 depth 9 odds 100 pulls 0;boy b weight 1 depth 9 odds 100 pulls 0 ghost;" + dreams);
        x.wake(0, true);
        x.go(5);
        Due.is("neither one awake nor a ghost draws", x.has(11), 1);
    }

    private static void go() {
        SleepRope x = Due.dorm(THREE + D);
        Due.is("go 0", x.go(0), -1);
        Due.is("go -1", x.go(-1), -1);
        Due.is("go 100", x.go(100), -1);
        Due.is("refused", x.status(2), 3);
        for (int k = 1; k <= 10; k++) {
            Due.is("go 99", x.go(99), 0);
            Due.is("minute", x.has(4), 99 * k);
        }
        Due.is("go beyond", x.go(99), 0);
        Due.is("minute 999", x.has(4), 999);
        Due.is("go in 999", x.go(1), -1);
        Due.is("refused in 999", x.status(2), 4);
        Due.is("dreams in 999", x.dreams(0, 0), 0);
        tug(x, 0, 999, 0, 0, 999, 0);
        Due.is("11 acts and one", x.has(9), 12);
        Due.is("without boys", new SleepRope().go(1), -1);
    }

    private static void lastTold() {
        // Both begin and end it each minute: two tugs a minute.
        SleepRope x = Due.dorm("boy a weight 1 depth 9 odds 100 pulls 0;boy b weight 1 depth 9 odds 100 pulls 0;"
            + "dream d tug 5 lasts 1 passes 9 odds 1;");
        Due.is("tugs", x.go(99), 198);
        Due.is("all told", x.has(8), 198);
        Due.is("tugs", x.go(2), 4);
        Due.is("the last 200 are told", x.has(8), 200);
        tug(x, 0, 1, 0, 0, 1, 0);
        tug(x, 199, 100, 1, 0, 100, 1);
        Due.is("no tug 200", x.tug(200, 0), -1);
        Due.is("felt all", x.boy(0, 10), 101);
        Due.is("together", x.boy(0, 12), 505);
        x.undo();
        Due.is("198 again", x.has(8), 198);
        tug(x, 0, 0, 0, 0, 0, 0);
        tug(x, 197, 98, 1, 0, 98, 1);
        x = Due.dorm("boy a weight 1 depth 999 odds 100 pulls 0;boy b weight 1 depth 999 odds 100 pulls 0;"
            + "boy c weight 1 depth 999 odds 100 pulls 0;dream d tug 999 lasts 1 passes 999 odds 1;");
        for (int k = 0; k < 11; k++) {
            x.go(99);
        }
        Due.is("10 to the 6 at most", x.boy(1, 12), 1000000);
        Due.is("felt goes on", x.boy(1, 10), 1998);
    }

    private static void wake() {
        SleepRope x = Due.dorm(THREE + D);
        Due.is("asleep already", x.wake(0, false), false);
        Due.is("no boy 3", x.wake(3, true), false);
        Due.is("no boy -1", x.wake(-1, true), false);
        x.dreams(0, 0);
        Due.is("wakes", x.wake(0, true), true);
        Due.is("no dream", x.boy(0, 7), -1);
        Due.is("no minutes", x.boy(0, 8), 0);
        Due.is("wakes who is caught", x.wake(1, true), true);
        Due.is("not caught", x.boy(1, 9), -1);
        Due.is("awake already", x.wake(1, true), false);
        Due.is("falls asleep", x.wake(1, false), true);
        Due.is("without a dream", x.boy(1, 7), -1);
        Due.is("refused", x.status(2), 4);
        Due.is("acts", x.has(9), 4);
        SleepRope y = Due.dorm("boy a weight 1 depth 9 odds 1 pulls 0 ghost;");
        Due.is("a ghost wakes by hand", y.wake(0, true), true);
        Due.is("none asleep", y.has(5), 0);
    }

    private static void knots() {
        SleepRope x = Due.dorm(THREE + D);
        Due.is("tied already", x.tie(0, true), false);
        Due.is("no knot 2", x.tie(2, false), false);
        Due.is("no knot -1", x.tie(-1, false), false);
        Due.is("undone", x.tie(0, false), true);
        Due.is("is undone", x.knot(0, 0), 0);
        Due.is("undone already", x.tie(0, false), false);
        Due.is("tied", x.tie(0, true), true);
        Due.is("slack", x.slack(0, 99), 1);
        Due.is("slack again", x.slack(0, 99), 99);
        Due.is("slack 0", x.slack(0, 0), 99);
        Due.is("slack 100", x.slack(0, 100), -1);
        Due.is("slack -1", x.slack(0, -1), -1);
        Due.is("slack of no knot", x.slack(2, 1), -1);
        Due.is("slack is", x.knot(0, 1), 0);
        Due.is("refused", x.status(3), 7);
        Due.is("acts", x.has(9), 5);
    }

    private static void swaps() {
        SleepRope x = Due.dorm(THREE + D);
        x.dreams(0, 0);
        Due.is("swap", x.swap(0, 2), true);
        Due.is("c in 0", x.at(0), 2);
        Due.is("a in 2", x.at(2), 0);
        Due.is("a's place", x.boy(0, 5), 2);
        Due.is("with his dream", x.boy(0, 8), 3);
        Due.is("knots stay", x.knot(0, 1), 1);
        Due.is("one place", x.swap(1, 1), false);
        Due.is("place 3", x.swap(0, 3), false);
        Due.is("place -1", x.swap(-1, 0), false);
        Due.is("refused", x.status(3), 3);
        Due.is("acts", x.has(9), 2);
    }

    private static void undo() {
        SleepRope x = Due.dorm(THREE + D);
        Due.is("nothing to undo", x.undo(), false);
        x.dreams(0, 0);
        x.seed(5);
        Due.hear(x, 1, 2, 3);
        x.go(4);
        int seed = x.has(11);
        x.wake(2, true);
        x.slack(1, 7);
        x.tie(0, false);
        x.swap(0, 1);
        int[] minutes = {4, 4, 4, 4, 0, 0};
        for (int k = 0; k < 6; k++) {
            Due.is("undo " + k, x.undo(), true);
            Due.is("acts then", x.has(9), 5 - k);
            Due.is("minute then", x.has(4), minutes[k]);
        }
        Due.is("nothing more", x.undo(), false);
        Due.is("no tugs", x.has(8), 0);
        Due.is("none felt", x.boy(1, 10), 0);
        Due.is("none caught", x.has(7), 0);
        Due.is("slack as it was", x.knot(1, 1), 2);
        Due.is("tied as it was", x.knot(0, 0), 1);
        Due.is("places as they were", x.at(0), 0);
        Due.is("all asleep", x.has(5), 3);
        Due.is("the seed stays", x.has(11), seed);
        Due.is("refused", x.status(4), 2);
        for (int k = 0; k < 25; k++) {
            x.slack(0, 30 + k);
        }
        Due.is("20 at most", x.has(9), 20);
        for (int k = 0; k < 20; k++) {
            Due.is("undo", x.undo(), true);
        }
        Due.is("no more than 20", x.undo(), false);
        Due.is("the first five stay", x.knot(0, 1), 34);
        // A CAUGHT one's ROOT comes back, too.
        x = Due.dorm(THREE + D);
        x.dreams(1, 0);
        x.go(1);
        x.undo();
        Due.is("caught again", x.boy(2, 9), 0);
        x.slack(0, 0);
        x.undo();
        x.go(3);
        tug(x, 1, 0, 2, 0, 0, 1);
    }

    private static void allComesBack() {
        SleepRope x = Due.dorm(THREE + D);
        x.dreams(1, 0);
        x.go(1);
        int[][] was = new int[3][13];
        for (int boy = 0; boy < 3; boy++) {
            for (int what = 0; what <= 12; what++) {
                was[boy][what] = x.boy(boy, what);
            }
        }
        x.dreams(2, 1);
        x.wake(0, false);
        x.dreams(0, 1);
        x.go(5);
        x.swap(0, 1);
        x.dreams(1, 0);
        for (int left = x.has(9); left > 2; left--) {
            x.undo();
        }
        for (int boy = 0; boy < 3; boy++) {
            for (int what = 0; what <= 12; what++) {
                Due.is("boy " + boy + " " + what + " again", x.boy(boy, what), was[boy][what]);
            }
        }
    }

    // b catches c in minute 0, a catches b in minute 7: both ROOTS are as they were after the ACTS between are undone.
    private static void rootsComeBack() {
        SleepRope x = Due.dorm(THREE + D);
        x.go(7);
        x.dreams(1, 0);
        Due.is("c is caught", x.boy(2, 9), 0);
        x.wake(2, true);
        x.wake(2, false);
        x.go(9);
        x.swap(0, 1);
        x.wake(0, false);
        x.dreams(0, 0);
        Due.is("c is caught by a", x.boy(2, 9), 0);
        for (int k = 0; k < 6; k++) {
            x.undo();
        }
        Due.is("minute 7", x.has(4), 7);
        Due.is("c is caught by b", x.boy(2, 9), 0);
        x.go(1);
        tug(x, 1, 7, 2, 0, 7, 1);
    }

    // Whom a DRAW lets begin is the ROOT himself, though he is CAUGHT at that time.
    private static void drawnThoughCaught() {
        SleepRope x = Due.dorm("boy a weight 1 depth 99 odds 100 pulls 0;boy b weight 1 depth 99 odds 0 pulls 0;"
            + "boy c weight 1 depth 99 odds 0 pulls 0;dream d tug 20 lasts 9 passes 1 odds 1;");
        x.wake(0, true);
        x.dreams(2, 0);
        x.wake(0, false);
        // b, caught by c, begins in the MINUTE and catches a, who lies below: a draws.
        Due.is("b, and a by a draw", x.go(1), 2);
        tug(x, 1, 0, 1, 0, 0, 2);
        tug(x, 2, 0, 0, 0, 0, 0);
        Due.is("a is caught no more", x.has(7), 0);
    }

    private static void leastForces() {
        SleepRope x = Due.dorm("boy a weight 1 depth 99 odds 0 pulls 0;boy b weight 1 depth 99 odds 0 pulls 0;"
            + "boy c weight 1 depth 99 odds 0 pulls 0;dream d tug 2 lasts 9 passes 1 odds 1;");
        x.dreams(0, 0);
        Due.is("c felt 1", x.boy(2, 12), 1);
        Due.is("c is caught by 1", x.boy(2, 9), 0);
        x.undo();
        x.dreams(2, 0);
        Due.is("a felt 1", x.boy(0, 12), 1);
        x.slack(0, 1);
        x.undo();
        x.undo();
        x.slack(0, 1);
        x.dreams(2, 0);
        Due.is("slack takes it", x.boy(0, 10), 0);
    }

    private static void seeds() {
        SleepRope x = new SleepRope();
        Due.is("seed 0", x.seed(0), true);
        Due.is("is 0", x.has(11), 0);
        Due.is("the greatest", x.seed(2147483647), true);
        Due.is("is it", x.has(11), 2147483647);
        Due.is("below 0", x.seed(-1), false);
        Due.is("stays", x.has(11), 2147483647);
        Due.is("refused", x.status(5), 1);
        x = Due.dorm("boy a weight 1 depth 9 odds 0 pulls 0;");
        x.seed(2147483647);
        Due.is("no act", x.has(9), 0);
        x.go(1);
        // 1103515245 * (2 to the 31 - 1) + 12345 is 12345 - 1103515245, and 2 to the 31.
        Due.is("drawn on from it", x.has(11), 1043980748);
    }

    public static void main(String[] args) {
        whatThereIs();
        strain();
        pieces();
        dreamsByHand();
        roots();
        chains();
        draws();
        go();
        lastTold();
        wake();
        knots();
        swaps();
        undo();
        allComesBack();
        rootsComeBack();
        drawnThoughCaught();
        leastForces();
        seeds();
        Due.end();
    }
}
