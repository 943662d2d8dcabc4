/** What lies at a bound, in part II of the document and in promises 6, 8 to 12, 14 to 21: one test for each such sentence. */
public final class EdgeActsTest {
    private static final int LEAST = Integer.MIN_VALUE;
    private static final int GREATEST = Integer.MAX_VALUE;
    // One of them wakes by nothing that a DREAM tugs.
    private static final String TWO = Texts.boys(2, 1, 999, 0);
    private static final String THREE = Texts.boys(3, 3, 999, 0);
    private static final String TWELVE = Texts.boys(12, 1, 999, 0);

    private EdgeActsTest() {
    }

    private static void tug(SleepRope x, int k, int... due) {
        for (int what = 0; what < due.length; what++) {
            Due.is("TUG " + k + " what " + what, x.tug(k, what), due[what]);
        }
    }

    // All as it is, in another MINUTE.
    private static void setMinute(SleepRope x, int minute) {
        int[] image = Due.image(x);
        image[0] = minute / 256;
        image[1] = minute % 256;
        Due.is("on in MINUTE " + minute, Due.on(x, image), true);
    }

    // ---- promises 6, 8 to 12: what there is

    // "0 BOYS .. 11 the seed. NONE for others."
    private static void hasAtItsBounds() {
        SleepRope x = Due.dorm(TWELVE + Texts.dreams(6, 999, 60, 1, 1));
        int[] due = {12, 6, 0, 11, 0, 12, 0, 0, 0, 0, 1, 1};
        for (int what = 0; what < due.length; what++) {
            Due.is("has " + what, x.has(what), due[what]);
        }
        for (int what : new int[] {-1, 12, LEAST, GREATEST}) {
            Due.is("has " + what, x.has(what), -1);
        }
        x.dreams(0, 5);
        Due.is("all others are CAUGHT", x.has(7), 11);
        Due.is("one has a DREAM", x.has(6), 1);
        Due.is("each of them begins", x.go(1), 11);
        Due.is("all have a DREAM", x.has(6), 12);
        Due.is("it is this one", x.dream(5, 4), 12);
        Due.is("no other one", x.dream(4, 4), 0);
        Due.is("none is CAUGHT", x.has(7), 0);
        for (int k = 0; k < 11; k++) {
            x.tie(k, false);
        }
        Due.is("no KNOT is tied", x.has(3), 0);
        Due.is("each is a PIECE", x.has(10), 12);
        for (int boy = 0; boy < 12; boy++) {
            x.wake(boy, true);
        }
        Due.is("none is asleep", x.has(5), 0);
        Due.is("none has a DREAM", x.has(6), 0);
        Due.nothingRefused(x);
        SleepRope one = Due.dorm(Texts.boy(0, 1, 1, 1));
        Due.is("one has no KNOT", one.has(3), 0);
        Due.is("and is a PIECE", one.has(10), 1);
    }

    // "NONE when there is none such, or for others": of BOYS, PLACES, KNOTS, DREAMS.
    private static void noneSuch() {
        SleepRope x = Due.dorm(TWELVE + Texts.dreams(6, 1, 1, 1, 1) + Texts.slack(99, 10));
        Due.is("the last BOY", x.boy(11, 5), 11);
        Due.is("the last PLACE", x.at(11), 11);
        Due.is("the last KNOT", x.knot(10, 1), 99);
        Due.is("the last DREAM", x.dream(5, 3), 1);
        for (int it : new int[] {-1, 12, LEAST, GREATEST}) {
            Due.is("BOY " + it, x.boy(it, 0), -1);
            Due.is("PLACE " + it, x.at(it), -1);
            Due.is("what " + it + " of a KNOT", x.knot(0, it), -1);
            Due.is("what " + it + " of a DREAM", x.dream(0, it), -1);
        }
        for (int it : new int[] {-1, 11, LEAST, GREATEST}) {
            Due.is("KNOT " + it, x.knot(it, 0), -1);
        }
        for (int it : new int[] {-1, 6, LEAST, GREATEST}) {
            Due.is("DREAM " + it, x.dream(it, 0), -1);
        }
        for (int it : new int[] {-1, 13, LEAST, GREATEST}) {
            Due.is("what " + it + " of a BOY", x.boy(0, it), -1);
        }
        Due.is("what 12 of a BOY", x.boy(0, 12), 0);
        Due.is("what 3 of a KNOT", x.knot(0, 3), -1);
        Due.is("what 5 of a DREAM", x.dream(0, 5), -1);
        Due.nothingRefused(x);
        SleepRope two = Due.dorm(TWO);
        Due.is("two have KNOT 0", two.knot(0, 0), 1);
        Due.is("and no other", two.knot(1, 0), -1);
        Due.is("one has none", Due.dorm(Texts.boy(0, 1, 1, 1)).knot(0, 0), -1);
        Due.is("no DREAM", two.dream(0, 0), -1);
    }

    // STRAIN: "(0 of one undone): what the BOY above it pulls (0 of one awake), and what the STRAIN of the next KNOT above
    // is above that KNOT's SLACK."
    private static void strainAtItsBounds() {
        StringBuilder s = new StringBuilder();
        for (int i = 0; i < 12; i++) {
            s.append(Texts.boy("b" + (char) ('a' + i), 1, 9, 0, 99, ""));
        }
        SleepRope x = Due.dorm(s.toString());
        for (int k = 0; k < 11; k++) {
            Due.is("without SLACK, KNOT " + k, x.knot(k, 2), 99 * (11 - k));
        }
        x.slack(10, 98);
        Due.is("1 above SLACK", x.knot(9, 2), 100);
        x.slack(10, 99);
        Due.is("as much as SLACK", x.knot(9, 2), 99);
        Due.is("his own SLACK takes nothing", x.knot(10, 2), 99);
        x.wake(11, true);
        Due.is("none above the last but one awake", x.knot(10, 2), 0);
        Due.is("SLACK above nothing", x.knot(9, 2), 99);
        x.tie(9, false);
        Due.is("undone", x.knot(9, 2), 0);
        Due.is("below it", x.knot(8, 2), 99);
        SleepRope y = Due.dorm(TWELVE);
        for (int k = 0; k < 11; k++) {
            Due.is("none pulls at KNOT " + k, y.knot(k, 2), 0);
        }
    }

    // "11 the greatest force of these (0 without), 12 forces of all these together (10 to the 6 at most)"
    private static void forcesTogether() {
        SleepRope x = Due.dorm(Texts.boy(0, 1, 999, 100) + Texts.boy(1, 1, 999, 0) + Texts.boy(2, 1, 999, 100)
            + Texts.dream("d", 999, 1, 999, 1));
        Due.is("no greatest yet", x.boy(1, 11), 0);
        Due.is("none together yet", x.boy(1, 12), 0);
        x.wake(1, true);
        for (int minutes : new int[] {99, 99, 99, 99, 99, 5}) {
            Due.is("two TUGS a MINUTE", x.go(minutes), 2 * minutes);
        }
        int[] together = {999000, 999999, 1000000, 1000000};
        for (int k = 0; k < 4; k++) {
            Due.is("TUGS felt", x.boy(1, 10), 1000 + k);
            Due.is("together", x.boy(1, 12), together[k]);
            Due.is("the greatest", x.boy(1, 11), 999);
            Due.is("none wakes", x.dreams(0, 0), 0);
            x.wake(0, true);
            x.wake(0, false);
        }
        x.slack(0, 50);
        Due.is("none wakes", x.dreams(0, 0), 0);
        Due.is("the greatest stays", x.boy(1, 11), 999);
        for (int k = 0; k < 14; k++) {
            x.undo();
        }
        Due.is("as it was", x.boy(1, 12), 999000);
    }

    // "TUGS are told in their order (the last 200)"; "NONE when there is none such, or for others".
    private static void theLast200() {
        SleepRope x = Due.dorm(Texts.boy(0, 1, 9, 100) + Texts.boy(1, 1, 9, 100) + Texts.dream("d", 5, 1, 9, 1));
        Due.is("none is told", x.tug(0, 0), -1);
        Due.is("99 MINUTES", x.go(99), 198);
        x.dreams(1, 0);
        Due.is("199 are told", x.has(8), 199);
        Due.is("no TUG 199", x.tug(199, 0), -1);
        tug(x, 0, 0, 0, 0, 0, 0);
        tug(x, 198, 99, 1, 0, 99, 1);
        x.dreams(0, 0);
        Due.is("200 are told", x.has(8), 200);
        tug(x, 0, 0, 0, 0, 0, 0);
        tug(x, 199, 99, 0, 0, 99, 0);
        Due.is("no TUG 200", x.tug(200, 0), -1);
        x.wake(1, true);
        x.wake(1, false);
        x.dreams(1, 0);
        Due.is("200 still", x.has(8), 200);
        tug(x, 0, 0, 1, 0, 0, 1);
        tug(x, 198, 99, 0, 0, 99, 0);
        tug(x, 199, 99, 1, 0, 99, 1);
        for (int k : new int[] {-1, 200, 201, LEAST, GREATEST}) {
            Due.is("no TUG " + k, x.tug(k, 0), -1);
        }
        for (int what : new int[] {-1, 5, LEAST, GREATEST}) {
            Due.is("what " + what, x.tug(0, what), -1);
        }
        Due.nothingRefused(x);
    }

    // "those of the ROOT (told or not)": 200 TUGS by hand come between it and the one who was CAUGHT by it.
    private static void rootThatIsToldNoMore() {
        SleepRope x = Due.dorm(TWO + Texts.boy(2, 1, 1, 0) + Texts.boy(3, 1, 1, 0) + Texts.dream("d", 20, 60, 5, 1));
        x.tie(1, false);
        x.go(3);
        Due.is("none wakes", x.dreams(0, 0), 0);
        for (int k = 0; k < 200; k++) {
            Due.is("the other one wakes", x.dreams(2 + k % 2, 0), 1);
            x.wake(3 - k % 2, false);
        }
        tug(x, 0, 3, 2, 0, 3, 2);
        Due.is("one TUG", x.go(1), 1);
        tug(x, 199, 3, 1, 0, 3, 0);
        tug(x, 0, 3, 3, 0, 3, 3);
    }

    // ---- part II: a TUG

    // "over a KNOT that is tied force less its SLACK comes to the next BOY, if that is above 0"
    private static void overAKnot() {
        SleepRope x = Due.dorm(TWO);
        for (int slack : new int[] {0, 1, 7, 98, 99}) {
            x.slack(0, slack);
            for (int from = 0; from < 2; from++) {
                Due.is("just SLACK " + slack, slack == 0 ? 0 : x.feels(from, slack, 1 - from), 0);
                Due.is("1 above SLACK " + slack, x.feels(from, slack + 1, 1 - from), 1);
                Due.is("2 above SLACK " + slack, x.feels(from, slack + 2, 1 - from), 2);
            }
        }
        x.slack(0, 50);
        Due.is("less than SLACK", x.feels(0, 1, 1), 0);
    }

    // "else it ends, as behind the last BOY and where a KNOT is undone"
    private static void whereItEnds() {
        SleepRope x = Due.dorm(Texts.boys(4, 1, 999, 0));
        x.tie(1, false);
        int[][] due = {{0, 9, 0, 0}, {9, 0, 0, 0}, {0, 0, 0, 9}, {0, 0, 9, 0}};
        for (int from = 0; from < 4; from++) {
            for (int place = 0; place < 4; place++) {
                int want = from == place ? -1 : due[from][place];
                Due.is("from " + from + " to " + place, x.feels(from, 9, place), want);
            }
        }
        SleepRope one = Due.dorm(Texts.boy(0, 1, 1, 0) + Texts.dream("d", 999, 1, 1, 1));
        Due.is("one alone", one.wakes(0, 9999), 0);
        Due.is("none wakes", one.dreams(0, 0), 0);
        Due.is("he does not feel his own", one.boy(0, 10), 0);
    }

    // "if the force is above that, he WAKES": DEEP by depth and by LAW, both ways.
    private static void whoWakes() {
        int[] depths = {1, 2, 50, 998, 999};
        for (int depth : depths) {
            SleepRope x = Due.dorm(Texts.boys(2, 1, depth, 0));
            Due.is("just depth " + depth, x.wakes(0, depth), 0);
            Due.is("1 above depth " + depth, x.wakes(0, depth + 1), 2);
            Due.is("just depth, down", x.wakes(1, depth), 0);
            Due.is("1 above depth, down", x.wakes(1, depth + 1), 1);
        }
        String[] laws = {"0-1", "0", "1", "9998", "9999", "9999+1"};
        int[] deep = {0, 0, 1, 9998, 9999, 9999};
        for (int i = 0; i < laws.length; i++) {
            SleepRope x = Due.dorm(Texts.boys(2, 1, 9, 0) + "deep " + laws[i] + " when all;");
            Due.is("not above DEEP " + laws[i], deep[i] == 0 ? 0 : x.wakes(0, deep[i]), 0);
            Due.is("1 above DEEP " + laws[i], deep[i] == 9999 ? 2 : x.wakes(0, deep[i] + 1), 2);
        }
        SleepRope y = Due.dorm(Texts.boys(2, 1, 19, 0) + Texts.dream("d", 19, 9, 99, 1) + Texts.dream("e", 20, 9, 99, 1));
        Due.is("a DREAM of just his depth", y.dreams(0, 0), 0);
        y.undo();
        Due.is("a DREAM of 1 above", y.dreams(0, 1), 1);
        Due.is("he is awake", y.boy(1, 6), 0);
    }

    // "PASSED ON is by a ghost all; by one who is awake then, nothing; by others .. 0 .. force .., else force less his
    // weight; if that is above 0, it goes on over the next KNOT."
    private static void whatIsPassedOn() {
        SleepRope x = Due.dorm(THREE);
        Due.is("just his weight", x.feels(0, 3, 2), 0);
        Due.is("1 above his weight", x.feels(0, 4, 2), 1);
        Due.is("less than his weight", x.feels(0, 1, 2), 0);
        Due.is("just his weight, down", x.feels(2, 3, 0), 0);
        Due.is("1 above, down", x.feels(2, 4, 0), 1);
        x.slack(1, 2);
        Due.is("weight and the next SLACK", x.feels(0, 5, 2), 0);
        Due.is("1 above them", x.feels(0, 6, 2), 1);
        x.wake(1, true);
        Due.is("one awake feels the greatest", x.feels(0, 9999, 1), 9999);
        Due.is("one awake passes nothing of it", x.feels(0, 9999, 2), 0);
        SleepRope light = Due.dorm(Texts.boys(3, 3, 8, 0));
        Due.is("who does not wake passes on", light.feels(0, 8, 2), 5);
        Due.is("who wakes passes nothing", light.feels(0, 9, 2), 0);
        SleepRope ghost = Due.dorm(Texts.boy(0, 3, 9, 0) + Texts.boy("g", 99, 1, 100, 0, "ghost") + Texts.boy(2, 3, 9, 0));
        Due.is("a ghost passes all of the least", ghost.feels(0, 1, 2), 1);
        Due.is("of the greatest", ghost.feels(0, 9999, 2), 9999);
        Due.is("and does not wake", ghost.wakes(0, 9999), 4);
        ghost.wake(1, true);
        Due.is("a ghost awake, too", ghost.feels(2, 1, 0), 1);
        SleepRope law = Due.dorm(THREE + "pass 0 when force=10;pass 1 when force=11;pass force when force=12;"
            + "pass force+1 when force=13;pass 0-1 when force=14;pass force-1 when force=15;");
        int[] passed = {0, 1, 12, 13, 0, 14, 13};
        for (int k = 0; k < passed.length; k++) {
            Due.is("by LAW of " + (10 + k), law.feels(0, 10 + k, 2), passed[k]);
        }
    }

    // "Of the BOY, ahead of what this TUG does to him: .. felt: how many TUGS he has FELT"
    private static void feltAheadOfThisTug() {
        SleepRope x = Due.dorm(THREE + Texts.dream("d", 9, 60, 99, 1) + "pass felt when place=1;");
        x.dreams(0, 0);
        Due.is("he passed on 0", x.boy(2, 10), 0);
        x.wake(0, true);
        x.wake(0, false);
        x.dreams(0, 0);
        Due.is("he passed on 1", x.boy(2, 12), 1);
        Due.is("he would pass on 2", x.law(1, 9, true), 2);
        // In one and the same MINUTE: the first of two TUGS finds that he felt none, the second that he felt one.
        SleepRope y = Due.dorm(Texts.boy(0, 1, 999, 100) + Texts.boy(1, 1, 999, 0) + Texts.boy(2, 1, 999, 100)
            + Texts.dream("d", 9, 60, 99, 1) + "pass felt when place=1;");
        Due.is("two TUGS", y.go(1), 2);
        Due.is("of the first nothing came", y.boy(2, 10), 0);
        Due.is("of the second 1", y.boy(0, 12), 1);
    }

    // ---- part II: a DREAM

    // "A BOY can begin a DREAM, if he is asleep, no ghost, and has none"; "NONE, refused (2), when there are none such, or
    // he can't."
    private static void whoCanBegin() {
        SleepRope x = Due.dorm(THREE + Texts.boy("g", 1, 9, 0, 0, "ghost") + Texts.dreams(6, 1, 2, 99, 1));
        x.wake(2, true);
        int[] was = Due.seen(x);
        for (int boy : new int[] {-1, 4, 12, LEAST, GREATEST}) {
            Due.refused(x, 2, "BOY " + boy, () -> x.dreams(boy, 0));
        }
        for (int dream : new int[] {-1, 6, LEAST, GREATEST}) {
            Due.refused(x, 2, "DREAM " + dream, () -> x.dreams(0, dream));
        }
        Due.refused(x, 2, "one awake", () -> x.dreams(2, 0));
        Due.refused(x, 2, "a ghost", () -> x.dreams(3, 0));
        Due.stays("what was refused", x, was);
        Due.is("the first BOY, the last DREAM", x.dreams(0, 5), 0);
        Due.refused(x, 2, "one who has it", () -> x.dreams(0, 5));
        Due.refused(x, 2, "one who has another", () -> x.dreams(0, 0));
        x.go(1);
        Due.refused(x, 2, "in its last MINUTE", () -> x.dreams(0, 0));
        x.go(1);
        Due.is("behind it", x.dreams(0, 0), 0);
        x.wake(2, false);
        Due.is("who fell asleep", x.dreams(2, 0), 0);
    }

    private static void whoCanNotBegin() {
        SleepRope none = Due.dorm(TWO);
        Due.refused(none, 2, "without DREAMS", () -> none.dreams(0, 0));
        SleepRope empty = Due.dorm(Texts.dreams(1, 1, 1, 1, 1));
        Due.refused(empty, 2, "without BOYS", () -> empty.dreams(0, 0));
        SleepRope x = Due.dorm(Texts.boy("g", 1, 9, 0, 0, "ghost") + Texts.dreams(1, 1, 1, 1, 1));
        x.wake(0, true);
        Due.refused(x, 2, "a ghost awake", () -> x.dreams(0, 0));
    }

    // "how many BOYS wake by its TUG": 0, 1, 2 at most one each way, but for ghosts who pass all and never wake.
    private static void howManyWake() {
        SleepRope x = Due.dorm(Texts.boys(5, 1, 5, 0) + Texts.dream("d", 5, 9, 99, 1) + Texts.dream("e", 6, 9, 99, 1));
        Due.is("none by 5", x.dreams(2, 0), 0);
        x.undo();
        Due.is("two by 6", x.dreams(2, 1), 2);
        x.undo();
        Due.is("one from the end", x.dreams(0, 1), 1);
        x.undo();
        x.wake(1, true);
        Due.is("one is awake already", x.dreams(2, 1), 1);
    }

    // "has it for so many MINUTES as it lasts"; "Then each DREAM that a BOY has lasts a MINUTE less; at 0 he has none."
    private static void howLongItLasts() {
        SleepRope x = Due.dorm(TWO + Texts.dream("d", 1, 1, 99, 1) + Texts.dream("e", 1, 60, 99, 1));
        Due.is("no MINUTES without", x.boy(0, 8), 0);
        x.dreams(0, 0);
        x.dreams(1, 1);
        Due.is("one MINUTE", x.boy(0, 8), 1);
        Due.is("sixty MINUTES", x.boy(1, 8), 60);
        x.go(1);
        Due.is("none more", x.boy(0, 8), 0);
        Due.is("has none", x.boy(0, 7), -1);
        Due.is("59 more", x.boy(1, 8), 59);
        x.go(58);
        Due.is("1 more", x.boy(1, 8), 1);
        Due.is("has it still", x.boy(1, 7), 1);
        x.go(1);
        Due.is("none more", x.boy(1, 8), 0);
        Due.is("has none", x.boy(1, 7), -1);
        // One that begins in a MINUTE lasts a MINUTE less at its end.
        SleepRope y = Due.dorm(Texts.boy(0, 1, 9, 100) + Texts.dream("d", 1, 2, 99, 1));
        y.go(1);
        Due.is("one of two", y.boy(0, 8), 1);
        SleepRope z = Due.dorm(Texts.boy(0, 1, 9, 100) + Texts.dream("d", 1, 1, 99, 1));
        Due.is("a TUG each MINUTE", z.go(5), 5);
        Due.is("none at their ends", z.boy(0, 7), -1);
    }

    // "FEELS a TUG of a DREAM with a force not below its passes, does not wake by it, is asleep, no ghost, and neither has a
    // DREAM nor is CAUGHT": each of these alone keeps him from it.
    private static void whoIsCaught() {
        SleepRope x = Due.dorm(TWO + Texts.dream("d", 20, 9, 20, 1) + Texts.dream("e", 20, 9, 21, 1) + Texts.dream("f", 1, 9, 1, 1)
            + Texts.dream("g", 999, 9, 999, 1));
        int[] caught = {0, -1, 2, 3};
        for (int dream = 0; dream < 4; dream++) {
            for (int boy = 0; boy < 2; boy++) {
                x.dreams(boy, dream);
                Due.is("by DREAM " + dream, x.boy(1 - boy, 9), caught[dream]);
                x.undo();
            }
        }
        x.slack(0, 1);
        x.dreams(0, 0);
        Due.is("1 below passes", x.boy(1, 9), -1);
        Due.is("he felt it", x.boy(1, 12), 19);
        SleepRope y = Due.dorm(Texts.boy(0, 1, 999, 0) + Texts.boy(1, 1, 19, 0) + Texts.dream("d", 20, 9, 1, 1)
            + Texts.dream("e", 19, 9, 1, 1));
        y.dreams(0, 0);
        Due.is("who wakes by it is not", y.boy(1, 9), -1);
        Due.is("he woke", y.boy(1, 6), 0);
        y.undo();
        y.dreams(0, 1);
        Due.is("who does not wake is", y.boy(1, 9), 1);
        y.undo();
        y.wake(1, true);
        y.dreams(0, 1);
        Due.is("one awake is not", y.boy(1, 9), -1);
        y.undo();
        y.undo();
        y.dreams(1, 1);
        y.dreams(0, 1);
        Due.is("who has a DREAM is not", y.boy(1, 9), -1);
        Due.is("he has it still", y.boy(1, 7), 1);
        SleepRope ghost = Due.dorm(Texts.boy(0, 1, 999, 0) + Texts.boy("g", 1, 999, 0, 0, "ghost") + Texts.dream("d", 20, 9, 1, 1));
        ghost.dreams(0, 0);
        Due.is("a ghost is not", ghost.boy(1, 9), -1);
        Due.is("though he felt it", ghost.boy(1, 11), 20);
    }

    // "nor is CAUGHT": of two TUGS the first one's DREAM and ROOT stay.
    private static void whoIsCaughtAlready() {
        SleepRope x = Due.dorm(THREE + Texts.dream("d", 9, 9, 9, 1) + Texts.dream("e", 9, 9, 9, 1));
        x.dreams(2, 1);
        x.go(1);
        Due.is("b has it", x.boy(1, 7), 1);
        x.wake(1, true);
        x.wake(1, false);
        x.dreams(0, 0);
        x.wake(2, true);
        x.wake(2, false);
        x.dreams(2, 1);
        Due.is("by the first", x.boy(1, 9), 0);
        Due.is("one TUG", x.go(1), 1);
        tug(x, 4, 1, 1, 0, 1, 0);
    }

    // ---- part II: a MINUTE, a DRAW

    // "each who is CAUGHT (now or by those ahead of him in this MINUTE) begins that DREAM": up the rope all in one MINUTE,
    // down the rope one a MINUTE.
    private static void caughtUpAndDown() {
        SleepRope x = Due.dorm(Texts.boys(12, 20, 999, 0) + Texts.dream("d", 10, 60, 1, 1));
        x.dreams(0, 0);
        Due.is("up: all at once", x.go(1), 11);
        Due.is("all have it", x.has(6), 12);
        tug(x, 11, 0, 11, 0, 0, 0);
        SleepRope y = Due.dorm(Texts.boys(12, 20, 999, 0) + Texts.dream("d", 10, 60, 1, 1));
        y.dreams(11, 0);
        for (int k = 1; k <= 11; k++) {
            Due.is("one is CAUGHT", y.has(7), 1);
            Due.is("down: one", y.go(1), 1);
            tug(y, k, k - 1, 11 - k, 0, 0, 11);
        }
        Due.is("no one more", y.go(1), 0);
        Due.is("none is CAUGHT", y.has(7), 0);
    }

    private static int afterDraw(int seed) {
        return (int) ((1103515245L * seed + 12345) % 2147483648L);
    }

    // "a DRAW of 100; if that is below his odds": odds just that, and 1 above; "the first DREAM whose odds, with those of
    // all ahead of it, are above that".
    private static void drawsAtTheirBounds() {
        int[] seeds = {0, 1, 2, 77, 4096, 999999, 1073741824, 2147483646, 2147483647};
        for (int seed : seeds) {
            int once = afterDraw(seed);
            int drawn = once / 64 % 100;
            SleepRope not = Due.dorm(Texts.boy(0, 1, 9, drawn) + Texts.dreams(2, 1, 9, 9, 1));
            not.seed(seed);
            Due.is("not below odds " + drawn, not.go(1), 0);
            Due.is("one DRAW", not.has(11), once);
            SleepRope below = Due.dorm(Texts.boy(0, 1, 9, drawn + 1) + Texts.dreams(2, 1, 9, 9, 1));
            below.seed(seed);
            Due.is("below odds " + (drawn + 1), below.go(1), 1);
            int twice = afterDraw(once);
            Due.is("two DRAWS", below.has(11), twice);
            int second = twice / 64 % 100;
            for (int first = second; first <= second + 1; first++) {
                if (first >= 1 && first <= 99) {
                    SleepRope x = Due.dorm(Texts.boy(0, 1, 9, 100) + Texts.dream("d", 1, 9, 9, first)
                        + Texts.dream("e", 1, 9, 9, 100 - first));
                    x.seed(seed);
                    x.go(1);
                    Due.is("odds " + first + " of a DRAW of " + second, x.boy(0, 7), first > second ? 0 : 1);
                }
            }
        }
    }

    // The DRAW of six DREAMS that are as likely: each of them may come.
    private static void eachDreamMayCome() {
        int[] came = new int[6];
        for (int seed = 0; seed < 60; seed++) {
            SleepRope x = Due.dorm(Texts.boy(0, 1, 9, 100) + Texts.dreams(6, 1, 9, 9, 99));
            x.seed(seed);
            x.go(1);
            int due = afterDraw(afterDraw(seed)) / 64 % 594 / 99;
            Due.is("by seed " + seed, x.boy(0, 7), due);
            came[due]++;
        }
        for (int dream = 0; dream < 6; dream++) {
            Due.is("DREAM " + dream + " came", came[dream] > 0, true);
        }
    }

    // odds 0 begins never, 100 always; "and there are DREAMS": without any a DRAW of 100 all the same.
    private static void oddsAtTheirBounds() {
        SleepRope never = Due.dorm(Texts.boy(0, 1, 9, 0) + Texts.dream("d", 1, 1, 9, 1));
        SleepRope always = Due.dorm(Texts.boy(0, 1, 9, 100) + Texts.dream("d", 1, 1, 9, 1));
        SleepRope none = Due.dorm(Texts.boy(0, 1, 9, 100));
        int seed = 1;
        int seedOfTwo = 1;
        for (int k = 0; k < 99; k++) {
            seed = afterDraw(seed);
            seedOfTwo = afterDraw(afterDraw(seedOfTwo));
        }
        Due.is("never", never.go(99), 0);
        Due.is("a DRAW each MINUTE", never.has(11), seed);
        Due.is("always", always.go(99), 99);
        Due.is("two DRAWS each MINUTE", always.has(11), seedOfTwo);
        Due.is("without DREAMS", none.go(99), 0);
        Due.is("a DRAW each MINUTE without DREAMS", none.has(11), seed);
    }

    // "n MINUTES (1 .. 99) go by, fewer if it would be beyond 999 ..; NONE, refused (2), when n can't be, without BOYS, or in
    // MINUTE 999."
    private static void goAtItsBounds() {
        SleepRope x = Due.dorm(TWO);
        int[] was = Due.seen(x);
        for (int n : new int[] {0, -1, 100, LEAST, GREATEST}) {
            Due.refused(x, 2, "go " + n, () -> x.go(n));
        }
        Due.stays("what was refused", x, was);
        Due.is("go 1", x.go(1), 0);
        Due.is("MINUTE 1", x.has(4), 1);
        Due.is("go 99", x.go(99), 0);
        Due.is("MINUTE 100", x.has(4), 100);
        Due.is("one ACT each", x.has(9), 2);
        int[] from = {899, 900, 901, 998};
        int[] to = {998, 999, 999, 999};
        for (int i = 0; i < from.length; i++) {
            setMinute(x, from[i]);
            Due.is("go 99 from " + from[i], x.go(99), 0);
            Due.is("MINUTE", x.has(4), to[i]);
        }
        Due.is("an ACT", x.has(9), 1);
        Due.refused(x, 2, "go in MINUTE 999", () -> x.go(1));
        Due.is("no ACT", x.has(9), 1);
        Due.is("MINUTE 999 stays", x.has(4), 999);
        SleepRope none = new SleepRope();
        Due.refused(none, 2, "without BOYS", () -> none.go(1));
        SleepRope dreams = Due.dorm(Texts.dreams(6, 1, 1, 1, 1));
        Due.refused(dreams, 2, "DREAMS without BOYS", () -> dreams.go(1));
        SleepRope last = Due.dorm(Texts.boy(0, 1, 9, 100) + Texts.dream("d", 1, 1, 9, 1));
        setMinute(last, 997);
        Due.is("two MINUTES are left", last.go(99), 2);
        tug(last, 1, 998, 0, 0, 998, 0);
    }

    // ---- promises 16 to 21

    // "true; false, refused (2), when there is none such, or he is so already."
    private static void wakeAtItsBounds() {
        SleepRope x = Due.dorm(TWELVE + Texts.dreams(1, 1, 60, 1, 1));
        int[] was = Due.seen(x);
        for (int boy : new int[] {-1, 12, LEAST, GREATEST}) {
            Due.refused(x, 2, "wake " + boy, () -> x.wake(boy, true));
            Due.refused(x, 2, "sleep " + boy, () -> x.wake(boy, false));
        }
        Due.refused(x, 2, "asleep already", () -> x.wake(11, false));
        Due.stays("what was refused", x, was);
        x.dreams(10, 0);
        Due.is("he is CAUGHT", x.boy(11, 9), 0);
        Due.is("the last BOY", x.wake(11, true), true);
        Due.is("he is not CAUGHT", x.boy(11, 9), -1);
        Due.refused(x, 2, "awake already", () -> x.wake(11, true));
        Due.is("the dreaming one", x.wake(10, true), true);
        Due.is("he has no DREAM", x.boy(10, 7), -1);
        Due.is("for no MINUTES", x.boy(10, 8), 0);
        Due.is("falls asleep", x.wake(10, false), true);
        Due.is("the first BOY", x.wake(0, true), true);
    }

    // "true; false, refused (3), when there is none such, or it is so already."
    private static void tieAtItsBounds() {
        SleepRope x = Due.dorm(TWELVE);
        int[] was = Due.seen(x);
        for (int knot : new int[] {-1, 11, LEAST, GREATEST}) {
            Due.refused(x, 3, "undone " + knot, () -> x.tie(knot, false));
            Due.refused(x, 3, "tied " + knot, () -> x.tie(knot, true));
        }
        Due.refused(x, 3, "tied already", () -> x.tie(0, true));
        Due.stays("what was refused", x, was);
        for (int knot : new int[] {0, 10}) {
            Due.is("undone", x.tie(knot, false), true);
            Due.refused(x, 3, "undone already", () -> x.tie(knot, false));
            Due.is("tied", x.tie(knot, true), true);
            Due.refused(x, 3, "tied already", () -> x.tie(knot, true));
        }
        SleepRope one = Due.dorm(Texts.boy(0, 1, 1, 0));
        Due.refused(one, 3, "one has no KNOT", () -> one.tie(0, false));
        SleepRope none = new SleepRope();
        Due.refused(none, 3, "without BOYS", () -> none.tie(0, false));
    }

    // "SLACK (0 .. 99) of a KNOT: what it was; NONE, refused (3), when there is none such, or it can't be."
    private static void slackAtItsBounds() {
        SleepRope x = Due.dorm(TWELVE + Texts.slack(5, 10));
        int[] was = Due.seen(x);
        for (int knot : new int[] {-1, 11, LEAST, GREATEST}) {
            Due.refused(x, 3, "KNOT " + knot, () -> x.slack(knot, 1));
        }
        for (int slack : new int[] {-1, 100, LEAST, GREATEST}) {
            Due.refused(x, 3, "SLACK " + slack, () -> x.slack(0, slack));
        }
        Due.stays("what was refused", x, was);
        Due.is("99", x.slack(10, 99), 5);
        Due.is("0", x.slack(10, 0), 99);
        Due.is("99 of KNOT 0", x.slack(0, 99), 0);
        Due.is("what it is", x.knot(0, 1), 99);
        x.tie(0, false);
        Due.is("of one undone", x.slack(0, 7), 99);
        SleepRope one = Due.dorm(Texts.boy(0, 1, 1, 0));
        Due.refused(one, 3, "one has no KNOT", () -> one.slack(0, 1));
        SleepRope none = new SleepRope();
        Due.refused(none, 3, "without BOYS", () -> none.slack(0, 1));
    }

    // "The BOYS in two unlike PLACES change these: true; false, refused (3), when there are none such."
    private static void swapAtItsBounds() {
        SleepRope x = Due.dorm(TWELVE);
        int[] was = Due.seen(x);
        for (int place : new int[] {-1, 12, LEAST, GREATEST}) {
            Due.refused(x, 3, "first " + place, () -> x.swap(place, 0));
            Due.refused(x, 3, "second " + place, () -> x.swap(0, place));
        }
        Due.refused(x, 3, "like PLACES", () -> x.swap(11, 11));
        Due.refused(x, 3, "like PLACES that are not there", () -> x.swap(12, 12));
        Due.stays("what was refused", x, was);
        Due.is("the first and the last", x.swap(0, 11), true);
        Due.is("the last is first", x.at(0), 11);
        Due.is("the first is last", x.boy(0, 5), 11);
        Due.is("back, the greater ahead", x.swap(11, 0), true);
        Due.is("as it was", x.at(0), 0);
        SleepRope one = Due.dorm(Texts.boy(0, 1, 1, 0));
        Due.refused(one, 3, "one alone", () -> one.swap(0, 0));
        Due.refused(one, 3, "no PLACE 1", () -> one.swap(0, 1));
        SleepRope none = new SleepRope();
        Due.refused(none, 3, "without BOYS", () -> none.swap(0, 1));
    }

    // "The last 20 ACTS can be undone."; "false, refused (4), when none can be".
    private static void theLast20() {
        for (int acts = 19; acts <= 22; acts++) {
            SleepRope x = Due.dorm(TWO);
            Due.refused(x, 4, "none yet", x::undo);
            for (int k = 1; k <= acts; k++) {
                x.slack(0, k);
            }
            int most = Math.min(20, acts);
            Due.is("of " + acts, x.has(9), most);
            for (int k = 1; k <= most; k++) {
                Due.is("undo " + k, x.undo(), true);
                Due.is("SLACK then", x.knot(0, 1), acts - k);
                Due.is("ACTS then", x.has(9), most - k);
            }
            Due.refused(x, 4, "no more of " + acts, x::undo);
            Due.is("SLACK stays", x.knot(0, 1), acts - most);
            Due.is("a new one", x.slack(0, 77), acts - most);
            Due.is("which can be undone", x.undo(), true);
            Due.refused(x, 4, "and no more", x::undo);
        }
    }

    // The ring of ACTS goes round: done and undone often, and always 20 at most.
    private static void actsGoRound() {
        SleepRope x = Due.dorm(TWO);
        int slack = 0;
        for (int round = 0; round < 3; round++) {
            for (int k = 1; k <= 33; k++) {
                slack++;
                x.slack(0, slack);
            }
            for (int k = 1; k <= 13; k++) {
                slack--;
                Due.is("undo", x.undo(), true);
            }
            Due.is("SLACK", x.knot(0, 1), slack);
            Due.is("seven are left", x.has(9), 7);
        }
        for (int k = 1; k <= 7; k++) {
            slack--;
            x.undo();
        }
        Due.is("SLACK at last", x.knot(0, 1), slack);
        Due.refused(x, 4, "no more", x::undo);
        // Where some can still be undone, new ones come on top of them.
        for (int k = 0; k < 19; k++) {
            x.slack(0, k);
        }
        x.undo();
        x.undo();
        x.slack(0, 90);
        x.slack(0, 91);
        x.slack(0, 92);
        Due.is("twenty", x.has(9), 20);
        int[] due = {91, 90, 16, 15};
        for (int it : due) {
            x.undo();
            Due.is("SLACK then", x.knot(0, 1), it);
        }
    }

    // "ACTS: .." each of them one, whatever it takes with it; "all is as it was ahead of it (but the seed ..)".
    private static void eachActIsOne() {
        for (int act = 0; act < 11; act++) {
            SleepRope x = Due.dorm(Texts.boys(4, 1, 50, 10) + Texts.dream("d", 9, 3, 1, 5) + Texts.dream("e", 60, 1, 9, 2)
                + Texts.slack(2, 1));
            x.wake(3, true);
            x.go(1);
            x.wake(1, true);
            x.wake(1, false);
            x.dreams(1, 0);
            int[] was = Due.seen(x);
            doAct(x, act);
            Due.is("one ACT more, " + act, x.has(9), was[8] + 1);
            Due.is("undone", x.undo(), true);
            was[10] = x.has(11);
            Due.stays("ACT " + act + " undone", x, was);
            Due.nothingRefused(x);
        }
    }

    private static void doAct(SleepRope x, int act) {
        switch (act) {
            case 0 -> x.go(1);
            case 1 -> x.go(99);
            case 2 -> x.dreams(0, 1);
            case 3 -> x.wake(2, true);
            case 4 -> x.wake(1, true);
            case 5 -> x.wake(3, false);
            case 6 -> x.tie(1, false);
            case 7 -> x.slack(1, 2);
            case 8 -> x.slack(1, 99);
            case 9 -> x.swap(0, 3);
            default -> x.swap(1, 2);
        }
    }

    // The last of twelve BOYS, the last KNOT: what an ACT does to them is undone, too.
    private static void actsOfTheLastOfTwelve() {
        for (int act = 0; act < 8; act++) {
            SleepRope x = Due.dorm(TWELVE + Texts.dream("d", 500, 9, 500, 1) + Texts.dream("e", 999, 9, 999, 1)
                + Texts.slack(1, 10));
            x.slack(10, 0);
            x.dreams(10, 0);
            Due.is("the last is CAUGHT", x.boy(11, 9), 0);
            int[] was = Due.seen(x);
            switch (act) {
                case 0 -> x.dreams(11, 1);
                case 1 -> x.wake(11, true);
                case 2 -> x.dreams(0, 1);
                case 3 -> x.swap(10, 11);
                case 4 -> x.slack(10, 99);
                case 5 -> x.tie(10, false);
                case 6 -> x.go(1);
                default -> x.go(99);
            }
            Due.is("an ACT", x.has(9), 3);
            Due.is("undone", x.undo(), true);
            was[10] = x.has(11);
            Due.stays("ACT " + act + " of the last", x, was);
            Due.nothingRefused(x);
        }
    }

    // The ROOT of the TUG by which the last of twelve is CAUGHT is undone, too.
    private static void rootOfTheLastOfTwelve() {
        SleepRope x = Due.dorm(TWELVE + Texts.dream("d", 999, 1, 900, 1));
        x.go(7);
        x.dreams(10, 0);
        int acts = x.has(9);
        x.wake(11, true);
        x.wake(11, false);
        x.go(2);
        x.wake(11, true);
        x.wake(11, false);
        x.dreams(3, 0);
        Due.is("CAUGHT by another", x.boy(11, 9), 0);
        while (x.has(9) > acts) {
            x.undo();
        }
        Due.is("CAUGHT as he was", x.boy(11, 9), 0);
        int before = x.has(8);
        Due.is("in MINUTE 7", x.has(4), 7);
        x.go(1);
        int last = x.has(8) - 1;
        Due.is("there are TUGS", last >= before, true);
        tug(x, last, 7, 11, 0, 7, 10);
    }

    // Each of the 200 TUGS that are told is as it was, when others have come in their stead and are undone.
    private static void toldTugsComeBack() {
        SleepRope x = Due.dorm(Texts.boy(0, 1, 9, 100) + Texts.boy(1, 1, 9, 100) + Texts.dream("d", 5, 1, 9, 1));
        x.go(99);
        x.go(7);
        x.go(99);
        x.undo();
        Due.is("200 are told", x.has(8), 200);
        for (int k = 0; k < 200; k++) {
            Due.is("MINUTE of TUG " + k, x.tug(k, 0), 6 + k / 2);
        }
    }

    // "(but the seed and what is HEARD)"; seed() itself is no ACT.
    private static void whatIsNotUndone() {
        SleepRope x = Due.dorm(Texts.boys(2, 1, 99, 50) + Texts.dreams(1, 9, 3, 99, 5));
        x.go(3);
        int seed = x.has(11);
        Due.hear(x, 0, 9);
        x.undo();
        Due.is("the seed stays", x.has(11), seed);
        Due.is("what is HEARD stays", x.pulled(0, 0), 1000);
        x.seed(5);
        Due.is("no ACT", x.has(9), 0);
        Due.refused(x, 4, "no undo of the seed", x::undo);
        Due.is("the seed is", x.has(11), 5);
    }

    // "The seed: true; false, refused (5), when it is below 0."
    private static void seedAtItsBounds() {
        SleepRope x = Due.dorm(Texts.boy(0, 1, 1, 0));
        Due.is("1 at first", x.has(11), 1);
        for (int seed : new int[] {0, 1, GREATEST - 1, GREATEST}) {
            Due.is("seed " + seed, x.seed(seed), true);
            Due.is("it is", x.has(11), seed);
            x.go(1);
            Due.is("behind a DRAW of it", x.has(11), afterDraw(seed));
        }
        x.seed(8);
        Due.refused(x, 5, "-1", () -> x.seed(-1));
        Due.refused(x, 5, "the least", () -> x.seed(LEAST));
        Due.is("it stays", x.has(11), 8);
    }

    // "An object is used for at most 512 calls": the last of them are answered like the first.
    private static void allItsCalls() {
        SleepRope x = Due.dorm(Texts.boys(2, 1, 999, 100) + Texts.dream("d", 999, 1, 999, 1));
        // Seven of feed(), then end(), dorm().
        int calls = 9;
        int felt = 0;
        while (calls < 500) {
            x.dreams(0, 0);
            x.wake(0, true);
            x.wake(0, false);
            felt++;
            calls += 3;
        }
        Due.is("TUGS felt", x.boy(1, 10), felt);
        Due.is("told", x.has(8), Math.min(200, felt));
        Due.is("ACTS", x.has(9), 20);
        Due.is("undo", x.undo(), true);
    }

    // "beside: how many of the BOYS in PLACES next to his, to whom he is tied, snore"; "MARKS snores, ghost": by the MARK,
    // be he who bears it asleep or awake, with a DREAM or none, a ghost, or one whom the TUG has just gone through.
    private static void whoSnores() {
        String snorers = Texts.boy("a", 1, 999, 0, 0, "snores") + Texts.boy("b", 1, 999, 0, 0, "")
            + Texts.boy("c", 1, 999, 0, 0, "ghost snores");
        SleepRope x = Due.dorm(snorers + Texts.dream("d", 9, 60, 99, 1) + "deep 10*beside+1 when all;");
        Due.is("both asleep", x.law(1, 9, false), 21);
        x.wake(0, true);
        Due.is("the one below awake", x.law(1, 9, false), 21);
        x.wake(2, true);
        Due.is("both awake", x.law(1, 9, false), 21);
        Due.is("a TUG below it", x.wakes(0, 21), 0);
        Due.is("a TUG above it", x.wakes(0, 22), 2);
        x.wake(0, false);
        Due.is("he begins a DREAM", x.dreams(0, 0), 0);
        Due.is("one with a DREAM", x.law(1, 9, false), 21);
        x.tie(0, false);
        Due.is("not tied to the one below", x.law(1, 9, false), 11);
        x.tie(1, false);
        Due.is("tied to none", x.law(1, 9, false), 1);
        x.tie(0, true);
        Due.is("not tied to the one above", x.law(1, 9, false), 11);
        x.swap(0, 1);
        Due.is("the MARK goes with the BOY", x.law(0, 9, false), 11);
        Due.is("and his own is none beside him", x.law(1, 9, false), 1);
    }

    // The same in one MINUTE: he who snores wakes by the TUG that comes to the next one.
    private static void whoSnoresAndWakes() {
        SleepRope x = Due.dorm(Texts.boy("a", 1, 999, 0, 0, "") + Texts.boy("b", 1, 999, 0, 0, "")
            + Texts.boy("c", 1, 5, 0, 0, "snores") + Texts.boy("e", 1, 999, 0, 0, "") + Texts.dream("d", 9, 60, 99, 1)
            + "deep 10*beside+1 when place=1;");
        Due.is("c wakes", x.dreams(3, 0), 1);
        Due.is("he is awake", x.boy(2, 6), 0);
        Due.is("b sleeps by him as deep as before", x.dreams(0, 0), 0);
        Due.is("b is asleep", x.boy(1, 6), 1);
    }

    public static void main(String[] args) {
        hasAtItsBounds();
        noneSuch();
        strainAtItsBounds();
        forcesTogether();
        theLast200();
        rootThatIsToldNoMore();
        overAKnot();
        whereItEnds();
        whoWakes();
        whatIsPassedOn();
        feltAheadOfThisTug();
        whoCanBegin();
        whoCanNotBegin();
        howManyWake();
        howLongItLasts();
        whoIsCaught();
        whoIsCaughtAlready();
        caughtUpAndDown();
        drawsAtTheirBounds();
        eachDreamMayCome();
        oddsAtTheirBounds();
        goAtItsBounds();
        wakeAtItsBounds();
        tieAtItsBounds();
        slackAtItsBounds();
        swapAtItsBounds();
        theLast20();
        actsGoRound();
        eachActIsOne();
        actsOfTheLastOfTwelve();
        rootOfTheLastOfTwelve();
        toldTugsComeBack();
        whatIsNotUndone();
        seedAtItsBounds();
        whoSnores();
        whoSnoresAndWakes();
        allItsCalls();
        Due.end();
    }
}
