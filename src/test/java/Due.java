import java.util.Arrays;
import java.util.function.BooleanSupplier;
import java.util.function.IntSupplier;

/** What the tests share: it counts answers that are not due, and puts texts on a tape. */
final class Due {
    private static final int KINDS_REFUSED = 6;
    private static int asked = 0;
    private static int wrong = 0;

    private Due() {
    }

    static void is(String what, long got, long want) {
        asked++;
        if (got != want) {
            wrong++;
            System.out.println(what + " answered " + got + ", due is " + want);
        }
    }

    static void is(String what, boolean got, boolean want) {
        is(what, got ? 1 : 0, want ? 1 : 0);
    }

    /** Ends the test: exit code 1 if an answer was not due. */
    static void end() {
        System.out.println(asked + " answers, " + wrong + " not as due");
        if (wrong != 0 || asked == 0) {
            System.exit(1);
        }
    }

    /** Puts bytes behind those on an empty tape. */
    static void tape(SleepRope x, int... bytes) {
        for (int from = 0; from < bytes.length; from += 20) {
            int[] five = new int[5];
            for (int k = 0; k < 20; k++) {
                int octet = from + k < bytes.length ? bytes[from + k] : 0;
                five[k / 4] |= (octet & 255) << 24 - 8 * (k % 4);
            }
            x.feed(five[0], five[1], five[2], five[3], five[4]);
        }
        x.end(bytes.length);
    }

    static void tape(SleepRope x, String text) {
        int[] bytes = new int[text.length()];
        for (int i = 0; i < bytes.length; i++) {
            bytes[i] = text.charAt(i);
        }
        tape(x, bytes);
    }

    /** A new object with that DORM. */
    static SleepRope dorm(String text) {
        SleepRope x = new SleepRope();
        tape(x, text);
        if (x.dorm() == SleepRope.NONE) {
            is("dorm() of " + text + " at " + x.fault(1), x.fault(0), 0);
        }
        return x;
    }

    /** dorm() of a text is refused with that FAULT at that place. */
    static void fault(String text, int fault, int place) {
        SleepRope x = new SleepRope();
        tape(x, text);
        is("dorm() of " + text, x.dorm(), -1);
        is("FAULT of " + text, x.fault(0), fault);
        is("its place in " + text, x.fault(1), place);
        is("refused " + text, x.status(1), 1);
    }

    /** A call that is refused: it answers NONE, and status(kind), it alone, is one more. */
    static void refused(SleepRope x, int kind, String what, IntSupplier call) {
        int[] due = refusals(x);
        due[kind]++;
        is(what, call.getAsInt(), SleepRope.NONE);
        is("what was refused behind " + what, Arrays.equals(refusals(x), due), true);
    }

    /** The same of a call that answers false. */
    static void refused(SleepRope x, int kind, String what, BooleanSupplier call) {
        refused(x, kind, what, () -> call.getAsBoolean() ? 1 : SleepRope.NONE);
    }

    private static int[] refusals(SleepRope x) {
        int[] counts = new int[KINDS_REFUSED];
        for (int kind = 0; kind < KINDS_REFUSED; kind++) {
            counts[kind] = x.status(kind);
        }
        return counts;
    }

    /** No call so far was refused: what can't be answers NONE, but is counted nowhere. */
    static void nothingRefused(SleepRope x) {
        is("nothing was refused", Arrays.equals(refusals(x), new int[KINDS_REFUSED]), true);
    }

    /** All that an ACT may change, as far as it can be seen (10 calls a BOY, 12 others). */
    static int[] seen(SleepRope x) {
        int boys = x.has(0);
        int[] seen = new int[11 + 10 * boys];
        int count = 0;
        for (int what = 1; what <= 11; what++) {
            seen[count++] = x.has(what);
        }
        for (int boy = 0; boy < boys; boy++) {
            for (int what = 5; what <= 12; what++) {
                seen[count++] = x.boy(boy, what);
            }
            seen[count++] = x.knot(boy, 0);
            seen[count++] = x.knot(boy, 1);
        }
        return seen;
    }

    /** All is as it was seen. */
    static void stays(String what, SleepRope x, int[] seen) {
        is("all stays behind " + what, Arrays.equals(seen(x), seen), true);
    }

    /** Puts HEARD forces on the tape and tells them. */
    static boolean hear(SleepRope x, int... forces) {
        int[] bytes = new int[2 * forces.length];
        for (int i = 0; i < forces.length; i++) {
            bytes[2 * i] = forces[i] / 256;
            bytes[2 * i + 1] = forces[i] % 256;
        }
        tape(x, bytes);
        return x.hear();
    }

    /** The bytes of an image, as it is now. */
    static int[] image(SleepRope x) {
        int[] bytes = new int[x.image()];
        for (int i = 0; i < bytes.length; i++) {
            bytes[i] = x.octet(i);
        }
        return bytes;
    }

    /** Puts an image on the tape, its last byte made anew, and calls on(). */
    static boolean on(SleepRope x, int... bytes) {
        int seal = 89;
        for (int i = 0; i < bytes.length - 1; i++) {
            seal = (5 * seal + bytes[i]) % 251;
        }
        int[] sealed = bytes.clone();
        sealed[bytes.length - 1] = seal;
        tape(x, sealed);
        return x.on();
    }
}
