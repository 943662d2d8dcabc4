/** Promises 30 to 39: who pulled, cuts, walks, beds, nights, images, refusals. */
public final class HeardTest {
    private static final String D = "dream d tug 20 lasts 3 passes 13 odds 2;dream e tug 30 lasts 1 passes 99 odds 3;";

    private HeardTest() {
    }

    private static String boy(String name, int weight, int depth, int odds, String marks) {
        return "boy " + name + " weight " + weight + " depth " + depth + " odds " + odds + " pulls 0 " + marks + ";";
    }

    private static void hear() {
        SleepRope x = Due.dorm(boy("a", 1, 9, 5, "") + boy("b", 1, 9, 5, "") + D);
        Due.is("heard of none", x.pulled(0, -1), -1);
        Due.is("two bytes too few", Due.hear(x, 20), false);
        Due.is("two bytes too many", Due.hear(x, 0, 20, 0), false);
        Due.tape(x, 0, 0, 0);
        Due.is("one byte too few", x.hear(), false);
        Due.is("the tape has gone", x.end(1), false);
        Due.is("nothing", x.hear(), false);
        Due.is("refused", x.status(1), 4);
        Due.is("just so many", Due.hear(x, 0, 20), true);
        Due.is("the tape has gone", x.end(1), false);
        Due.is("a did", x.pulled(0, 0), 1000);
        Due.is("refused ones stay", Due.hear(x, 1), false);
        Due.is("a still", x.pulled(0, 0), 1000);
        SleepRope none = new SleepRope();
        Due.is("without boys", none.hear(), false);
        Due.is("refused without", none.status(1), 1);
    }

    private static void pulled() {
        // b hears 20 by d from a; by d from c.
        SleepRope x = Due.dorm(boy("a", 1, 9, 5, "") + boy("b", 1, 99, 5, "") + boy("c", 1, 99, 2, "") + D
            + "pass 0 when all;");
        x.tie(1, false);
        x.tie(1, true);
        Due.hear(x, 0, 20, 0);
        Due.is("a by d", x.pulled(0, 0), 714);
        Due.is("a by e", x.pulled(0, 1), 0);
        Due.is("c by d", x.pulled(2, 0), 285);
        Due.is("b felt it", x.pulled(1, -1), 0);
        Due.is("a by any", x.pulled(0, -1), 714);
        Due.is("no boy 3", x.pulled(3, -1), -1);
        Due.is("no boy -1", x.pulled(-1, -1), -1);
        Due.is("no dream 2", x.pulled(0, 2), -1);
        Due.is("no dream -2", x.pulled(0, -2), -1);
        Due.hear(x, 20, 0, 20);
        Due.is("b by d", x.pulled(1, 0), 1000);
        Due.hear(x, 0, 276, 0);
        Due.is("none can have", x.pulled(0, -1), -1);
        Due.hear(x, 0, 0, 0);
        Due.is("none of those", x.pulled(0, -1), -1);
        // All floors together: e and f tug alike.
        SleepRope y = Due.dorm(boy("a", 1, 9, 5, "") + boy("b", 1, 99, 0, "ghost") + boy("c", 1, 99, 0, "")
            + "dream d tug 20 lasts 3 passes 13 odds 1;dream e tug 20 lasts 3 passes 13 odds 1;"
            + "dream f tug 20 lasts 3 passes 13 odds 1;");
        Due.hear(y, 0, 20, 20);
        Due.is("a third", y.pulled(0, 1), 333);
        Due.is("three floors", y.pulled(0, -1), 999);
        y.dreams(0, 0);
        y.wake(2, true);
        y.wake(0, true);
        Due.is("whether he could or not", y.pulled(0, 1), 333);
        Due.hear(y, 20, 0, 20);
        Due.is("a ghost never", y.pulled(1, -1), -1);
        y.undo();
        Due.hear(y, 20, 20, 0);
        Due.is("odds 0 together", y.pulled(2, 0), -1);
        Due.is("not even a", y.pulled(0, 0), -1);
    }

    private static void oneBoy() {
        SleepRope x = Due.dorm(boy("a", 1, 9, 1, "") + "dream d tug 20 lasts 3 passes 13 odds 1;");
        Due.is("hears nothing", Due.hear(x, 0), true);
        Due.is("odds 1 together", x.pulled(0, 0), 1000);
        Due.is("a bed", x.beds(1, -1), 1);
        Due.is("his bed", x.beds(1, 0), 0);
        Due.is("he walks alone", x.walk(0), 0);
        Due.is("he is a piece", x.has(10), 1);
        Due.is("an image of him", x.image(), 10);
    }

    private static void twelve() {
        StringBuilder s = new StringBuilder(D);
        for (int i = 0; i < 12; i++) {
            s.append(boy("" + (char) ('p' + i - 2), i < 2 || i > 9 ? 9 : 1, 9, 0, ""));
        }
        SleepRope x = Due.dorm(s.toString());
        // 9 9 1 1 1 1 1 1 1 1 9 9
        Due.is("9, 9, 8, 9, 9", x.cut(4, -1), 9);
        Due.is("the first", x.cut(4, 0), 0);
        Due.is("the second", x.cut(4, 1), 1);
        Due.is("the third", x.cut(4, 2), 9);
        Due.is("the last", x.cut(4, 3), 10);
        Due.is("once", x.cut(1, -1), 22);
        Due.is("in the middle", x.cut(1, 0), 5);
        for (int k = 0; k < 10; k++) {
            x.tie(k, false);
        }
        Due.is("the last knot", x.cut(1, 0), 10);
        Due.is("9 is left", x.cut(1, -1), 9);
        Due.is("no second", x.cut(1, 1), -1);
        Due.is("an image of all", x.image(), 109);
        Due.is("its last knot", x.octet(106), 1);
        Due.is("the one ahead", x.octet(104), 0);
        int[] image = Due.image(x);
        x.tie(10, false);
        Due.is("on", Due.on(x, image), true);
        Due.is("tied again", x.has(3), 1);
    }

    private static void heardStays() {
        SleepRope x = Due.dorm(boy("a", 1, 9, 5, "") + boy("b", 1, 99, 5, "") + D);
        x.slack(0, 1);
        Due.hear(x, 0, 19);
        x.slack(0, 2);
        Due.is("as all is now", x.pulled(0, -1), -1);
        x.undo();
        Due.is("heard is not undone", x.pulled(0, 0), 1000);
        x.undo();
        Due.is("slack 0", x.pulled(0, 0), -1);
        x.slack(0, 1);
        int[] image = Due.image(x);
        Due.is("a refused on", Due.on(x, 1, 2, 3), false);
        Due.is("heard stays", x.pulled(0, 0), 1000);
        Due.is("on", Due.on(x, image), true);
        Due.is("nothing is heard behind it", x.pulled(0, 0), -1);
        Due.hear(x, 0, 19);
        Due.is("heard again", x.pulled(0, 0), 1000);
        Due.tape(x, "boy");
        x.dorm();
        Due.is("a refused dorm", x.pulled(0, 0), 1000);
    }

    private static void cut() {
        SleepRope x = Due.dorm(boy("a", 5, 9, 5, "") + boy("b", 5, 9, 5, "") + boy("c", 5, 9, 5, "")
            + boy("d", 5, 9, 5, "") + boy("e", 5, 9, 5, "") + boy("f", 9, 9, 5, ""));
        Due.is("not at all", x.cut(0, -1), 34);
        Due.is("no knot then", x.cut(0, 0), -1);
        Due.is("once", x.cut(1, -1), 19);
        Due.is("15 and 19", x.cut(1, 0), 2);
        Due.is("twice: 10, 10, 14", x.cut(2, -1), 14);
        Due.is("twice 0", x.cut(2, 0), 1);
        Due.is("twice 1", x.cut(2, 1), 3);
        Due.is("thrice: 5, 10, 10, 9, the first of its like", x.cut(3, -1), 10);
        Due.is("thrice 0", x.cut(3, 0), 0);
        Due.is("thrice 1", x.cut(3, 1), 2);
        Due.is("thrice 2", x.cut(3, 2), 4);
        Due.is("thrice 3", x.cut(3, 3), -1);
        Due.is("four times", x.cut(4, -1), 10);
        Due.is("four 2", x.cut(4, 2), 2);
        Due.is("four 3", x.cut(4, 3), 4);
        Due.is("five", x.cut(5, -1), -1);
        Due.is("-1", x.cut(-1, -1), -1);
        Due.is("k -2", x.cut(1, -2), -1);
        x.tie(2, false);
        x.tie(3, false);
        Due.is("those undone are cut already: 5, 10, 5, 14", x.cut(1, -1), 14);
        Due.is("the first of 0 and 1", x.cut(1, 0), 0);
        Due.is("three are left", x.cut(3, 2), 4);
        Due.is("not four", x.cut(4, -1), -1);
        Due.is("nothing is done", x.has(3), 3);
        Due.is("without boys", new SleepRope().cut(0, -1), -1);
        Due.is("one boy", Due.dorm(boy("a", 5, 9, 5, "")).cut(0, -1), 5);
        Due.is("one boy has no knot", Due.dorm(boy("a", 5, 9, 5, "")).cut(1, -1), -1);
    }

    private static void walk() {
        SleepRope x = Due.dorm(boy("a", 9, 9, 5, "") + boy("b", 5, 9, 5, "") + boy("c", 4, 9, 5, "ghost")
            + boy("d", 6, 9, 5, "") + boy("e", 1, 9, 5, "") + "slack 1 at 1;");
        // a: 27 - 5 - 1 - 4 - 6 = 11, 10. c: 12; up 12 - 6 = 6, 5; down 12 - 1 - 5 = 6, less than 9.
        Due.is("a takes all", x.walk(0), 30);
        Due.is("d takes c, b, e, not a", x.walk(3), 4 + 2 + 16);
        x.slack(1, 0);
        Due.is("d takes a, too", x.walk(3), 4 + 2 + 16 + 1);
        x.slack(1, 1);
        Due.is("c takes d, e, b", x.walk(2), 8 + 16 + 2);
        x.slack(2, 6);
        Due.is("just enough", x.walk(2), 8 + 2);
        x.slack(2, 7);
        Due.is("not enough", x.walk(2), 2);
        Due.is("e takes none", x.walk(4), 0);
        x.tie(1, false);
        Due.is("where it is undone it ends", x.walk(2), 0);
        x.wake(2, true);
        x.slack(2, 0);
        Due.is("awake or asleep", x.walk(2), 24);
        Due.is("place 5", x.walk(5), -1);
        Due.is("place -1", x.walk(-1), -1);
        Due.is("nothing is done", x.at(2), 2);
    }

    private static void beds() {
        SleepRope x = Due.dorm(boy("a", 5, 9, 5, "") + boy("b", 5, 9, 5, "") + boy("c", 9, 9, 5, "ghost")
            + boy("d", 1, 9, 5, "") + boy("e", 2, 9, 5, ""));
        x.tie(0, false);
        Due.is("beds", x.beds(10, -1), 3);
        Due.is("the first", x.beds(10, 0), 0);
        Due.is("the second", x.beds(10, 1), 2);
        Due.is("the third", x.beds(10, 2), 4);
        Due.is("no fourth", x.beds(10, 3), -1);
        Due.is("-2", x.beds(10, -2), -1);
        Due.is("nine", x.beds(9, -1), 4);
        Due.is("a boy is heavier", x.beds(8, -1), -1);
        Due.is("not even the first", x.beds(8, 0), -1);
        Due.is("0", x.beds(0, -1), -1);
        Due.is("10000", x.beds(10000, -1), -1);
        Due.is("9999", x.beds(9999, -1), 1);
        x.swap(0, 2);
        Due.is("by places", x.beds(10, 1), 1);
        Due.is("without boys", new SleepRope().beds(10, -1), -1);
    }

    private static void nights() {
        // The draws from seed 1 (mod 100): 18, 99, ..; a begins when one is below 50.
        SleepRope x = Due.dorm(boy("a", 1, 9, 50, "") + boy("b", 1, 9, 0, "")
            + "dream d tug 20 lasts 1 passes 13 odds 1;");
        x.wake(1, true);
        Due.is("tugs", x.nights(1, 1, 0), 1);
        Due.is("two draws", x.has(11), 377401575);
        x.seed(1);
        Due.is("awake: b", x.nights(1, 1, 1), 1);
        x.seed(1);
        Due.is("not all awake", x.nights(1, 1, 2), 0);
        Due.is("nothing told", x.has(8), 0);
        Due.is("nothing felt", x.boy(1, 10), 0);
        Due.is("minute 0", x.has(4), 0);
        Due.is("no act", x.has(9), 1);
        Due.is("none dreams", x.has(6), 0);
        x.wake(1, false);
        x.seed(1);
        Due.is("b wakes by it", x.nights(1, 1, 1), 1);
        Due.is("b sleeps", x.boy(1, 6), 1);
        x.wake(0, true);
        x.wake(1, true);
        Due.is("all awake, night by night", x.nights(20, 60, 2), 20);
        Due.is("40 awake", x.nights(20, 60, 1), 40);
        int seed = x.has(11);
        int[][] wrong = {{0, 1, 0}, {21, 1, 0}, {1, 0, 0}, {1, 61, 0}, {1, 1, 3}, {1, 1, -1}};
        for (int[] it : wrong) {
            Due.is("nights of what can't be", x.nights(it[0], it[1], it[2]), -1);
        }
        Due.is("they draw nothing", x.has(11), seed);
        Due.is("without boys", new SleepRope().nights(1, 1, 0), -1);
        SleepRope ghosts = Due.dorm(boy("a", 1, 9, 50, "ghost"));
        Due.is("ghosts need not be awake", ghosts.nights(3, 5, 2), 3);
        Due.is("none is awake", ghosts.nights(3, 5, 1), 0);
    }

    private static void nightsAtTheLast() {
        SleepRope x = Due.dorm(boy("a", 1, 9, 100, "") + "dream d tug 20 lasts 1 passes 13 odds 1;");
        int[] image = Due.image(x);
        image[0] = 3;
        image[1] = 227;
        Due.is("on", Due.on(x, image), true);
        Due.is("minute 995", x.has(4), 995);
        Due.is("four minutes each", x.nights(3, 60, 0), 12);
        Due.is("minute 995 still", x.has(4), 995);
        x.go(99);
        int seed = x.has(11);
        Due.is("none in 999", x.nights(3, 60, 0), 0);
        Due.is("no draw", x.has(11), seed);
    }

    private static void image() {
        SleepRope none = new SleepRope();
        Due.is("no image yet", none.octet(0), -1);
        Due.is("image without boys", none.image(), 3);
        // (5 * (5 * 89) + 0) mod 251: 445 - 251 = 194, 970 - 753 = 217.
        Due.is("its last byte", none.octet(2), 217);
        Due.is("no byte 3", none.octet(3), -1);
        Due.is("no byte -1", none.octet(-1), -1);
        SleepRope x = Due.dorm(boy("a", 2, 99, 0, "") + boy("b", 3, 10, 0, "") + boy("c", 4, 99, 0, "") + D
            + "slack 7 at 1;");
        x.tie(1, false);
        x.go(99);
        x.go(99);
        x.go(99);
        x.dreams(1, 0);
        x.swap(0, 2);
        x.slack(0, 5);
        int[] due = {1, 41, 2, 1, 0, 0, 0, 0, 0, 1, 1, 1, 3, 0, 0, 0, 0, 1, 0, 0, 1, 0, 1, 1, 5, 0, 7};
        Due.is("how many bytes", x.image(), 28);
        int seal = 89;
        for (int k = 0; k < due.length; k++) {
            Due.is("byte " + k, x.octet(k), due[k]);
            seal = (5 * seal + due[k]) % 251;
        }
        Due.is("the last", x.octet(27), seal);
        Due.is("no byte 28", x.octet(28), -1);
        x.wake(0, true);
        Due.is("the latest image stays", x.octet(17), 1);
        Due.is("not caught then", Due.image(x)[20], 0);
        Due.is("awake then", x.octet(17), 0);
    }

    private static void felt() {
        // Each minute both tug: felt goes beyond 9999 by images alone; 9999 at most are told.
        SleepRope x = Due.dorm(boy("a", 1, 999, 100, "") + boy("b", 1, 999, 100, "")
            + "dream d tug 5 lasts 1 passes 9 odds 1;");
        int[] image = Due.image(x);
        image[7] = 39;
        image[8] = 10;
        Due.is("on with 9994", Due.on(x, image), true);
        Due.is("felt 9994", x.boy(0, 10), 9994);
        x.go(8);
        Due.is("felt 10002", x.boy(0, 10), 10002);
        Due.is("since on", x.boy(0, 12), 40);
        image = Due.image(x);
        Due.is("9999 is told", image[7] * 256 + image[8], 9999);
        Due.is("eight", image[14] * 256 + image[15], 8);
    }

    private static void on() {
        SleepRope x = Due.dorm(boy("a", 2, 99, 0, "") + boy("b", 3, 10, 0, "") + boy("g", 4, 99, 0, "ghost") + D);
        int[] whole = Due.image(x);
        x.dreams(1, 0);
        x.go(1);
        x.slack(0, 9);
        x.tie(1, false);
        x.swap(0, 1);
        int[] image = Due.image(x);
        Due.is("on what was", Due.on(x, whole), true);
        Due.is("no tugs", x.has(8), 0);
        Due.is("no acts", x.has(9), 0);
        Due.is("no undo", x.undo(), false);
        Due.is("minute 0", x.has(4), 0);
        Due.is("tied", x.knot(1, 0), 1);
        Due.is("slack", x.knot(0, 1), 0);
        Due.is("a in 0", x.at(0), 0);
        Due.is("none dreams", x.has(6), 0);
        Due.is("on again", Due.on(x, image), true);
        Due.is("b in 0", x.at(0), 1);
        Due.is("minute 1", x.has(4), 1);
        Due.is("a dreams, b woke by it", x.has(6), 1);
        Due.is("two minutes more", x.boy(0, 8), 2);
        Due.is("felt", x.boy(2, 10), 1);
        Due.is("greatest 0", x.boy(2, 11), 0);
        Due.is("together 0", x.boy(2, 12), 0);
        Due.is("undone knot", x.knot(1, 0), 0);
        Due.is("slack 9", x.knot(0, 1), 9);
        int[] back = Due.image(x);
        for (int k = 0; k < image.length; k++) {
            Due.is("the same image " + k, back[k], image[k]);
        }
        Due.is("the tape has gone", x.end(1), false);
        Due.is("nothing is no image", x.on(), false);
        Due.is("refused", x.status(5), 1);
        SleepRope none = new SleepRope();
        Due.is("without boys", Due.on(none, 3, 231, 0), true);
        Due.is("minute 999", none.has(4), 999);
        Due.is("minute 1000", Due.on(none, 3, 232, 0), false);
    }

    // Byte k of a whole image made it: is it one still?
    private static void changed(SleepRope x, int[] image, boolean due, int... changes) {
        int[] other = image.clone();
        StringBuilder s = new StringBuilder("on with");
        for (int i = 0; i < changes.length; i += 2) {
            other[changes[i]] = changes[i + 1];
            s.append(" byte ").append(changes[i]).append(" as ").append(changes[i + 1]);
        }
        int refused = x.status(5);
        int minute = x.has(4);
        Due.is(s.toString(), Due.on(x, other), due);
        Due.is("refused: " + s, x.status(5), due ? refused : refused + 1);
        Due.is("stays: " + s, due || x.has(4) == minute, true);
        Due.on(x, image);
    }

    private static void whatIsNoImage() {
        // a: bytes 2 .. 8, b: 9 .. 15, g (a ghost): 16 .. 22, knots 23 .. 26.
        SleepRope x = Due.dorm(boy("a", 2, 99, 0, "") + boy("b", 3, 10, 0, "") + boy("g", 4, 99, 0, "ghost") + D);
        int[] image = Due.image(x);
        changed(x, image, true, 0, 3, 1, 231);
        changed(x, image, false, 0, 3, 1, 232);
        changed(x, image, false, 2, 1);
        changed(x, image, false, 2, 3);
        changed(x, image, true, 2, 1, 9, 0);
        changed(x, image, true, 3, 0);
        changed(x, image, false, 3, 2);
        changed(x, image, true, 4, 1, 5, 3);
        changed(x, image, true, 4, 1, 5, 1);
        changed(x, image, false, 4, 1, 5, 4);
        changed(x, image, false, 4, 1, 5, 0);
        changed(x, image, false, 4, 0, 5, 1);
        changed(x, image, true, 4, 2, 5, 1);
        changed(x, image, false, 4, 2, 5, 2);
        changed(x, image, false, 4, 3, 5, 1);
        changed(x, image, false, 4, 1, 5, 1, 3, 0);
        changed(x, image, true, 6, 1);
        changed(x, image, true, 6, 2);
        changed(x, image, false, 6, 3);
        changed(x, image, false, 6, 1, 3, 0);
        changed(x, image, false, 6, 1, 4, 1, 5, 1);
        changed(x, image, false, 18, 1, 19, 1);
        changed(x, image, false, 20, 1);
        changed(x, image, true, 17, 0);
        changed(x, image, true, 7, 39, 8, 15);
        changed(x, image, false, 7, 39, 8, 16);
        changed(x, image, true, 23, 0);
        changed(x, image, false, 23, 2);
        changed(x, image, true, 24, 99);
        changed(x, image, false, 24, 100);
        changed(x, image, false, 26, 100);
        SleepRope six = Due.dorm(boy("a", 2, 99, 0, "") + D + D.replace("d tug", "f tug").replace("e tug", "g tug")
            + D.replace("d tug", "h tug").replace("e tug", "i tug"));
        int[] one = Due.image(six);
        changed(six, one, true, 4, 6, 5, 1);
        changed(six, one, false, 4, 7, 5, 1);
        changed(six, one, false, 4, 255, 5, 1);
        changed(six, one, true, 6, 6);
        changed(six, one, false, 6, 7);
        changed(six, one, false, 6, 255);
        int[] unsealed = image.clone();
        unsealed[27]++;
        Due.tape(x, unsealed);
        Due.is("another last byte", x.on(), false);
        Due.tape(x, java.util.Arrays.copyOf(image, 27));
        Due.is("a byte too few", x.on(), false);
        Due.is("a byte too many", Due.on(x, java.util.Arrays.copyOf(image, 29)), false);
    }

    private static void rootsBehindAnImage() {
        SleepRope x = Due.dorm(boy("a", 2, 99, 0, "") + boy("b", 3, 99, 0, "") + D);
        x.dreams(1, 0);
        x.seed(9);
        int[] image = Due.image(x);
        Due.is("on", Due.on(x, image), true);
        Due.is("a is caught", x.boy(0, 9), 0);
        Due.is("the seed stays", x.has(11), 9);
        x.go(1);
        int[] tug = {0, 0, 0, 0, 0};
        for (int what = 0; what < 5; what++) {
            Due.is("its own root " + what, x.tug(0, what), tug[what]);
        }
    }

    private static void status() {
        SleepRope x = new SleepRope();
        x.end(-1);
        x.hear();
        x.hear();
        x.go(1);
        x.dreams(0, 0);
        x.wake(0, true);
        x.tie(0, true);
        x.slack(0, 0);
        x.swap(0, 1);
        x.lay();
        for (int k = 0; k < 5; k++) {
            x.undo();
        }
        x.seed(-1);
        for (int k = 0; k < 5; k++) {
            x.on();
        }
        int[] due = {1, 2, 3, 4, 5, 6};
        for (int what = 0; what < 6; what++) {
            Due.is("status " + what, x.status(what), due[what]);
        }
        Due.is("status 6", x.status(6), -1);
        Due.is("status -1", x.status(-1), -1);
    }

    public static void main(String[] args) {
        hear();
        pulled();
        oneBoy();
        twelve();
        heardStays();
        cut();
        walk();
        beds();
        nights();
        nightsAtTheLast();
        image();
        felt();
        on();
        whatIsNoImage();
        rootsBehindAnImage();
        status();
        Due.end();
    }
}
