/** Promises 1 to 5 and 7, and the grammar of a DORM with its FAULTS. */
public final class TextTest {
    private static final String BOY = " weight 5 depth 5 odds 5 pulls 5";
    private static final String DREAM = " tug 1 lasts 1 passes 1 odds 1";

    private TextTest() {
    }

    private static String times(int n, String text) {
        return text.repeat(n);
    }

    private static String boys(int n) {
        StringBuilder s = new StringBuilder();
        for (int i = 0; i < n; i++) {
            s.append("boy b").append((char) ('a' + i)).append(BOY).append(";");
        }
        return s.toString();
    }

    private static String dreams(int n) {
        StringBuilder s = new StringBuilder();
        for (int i = 0; i < n; i++) {
            s.append("dream d").append((char) ('a' + i)).append(DREAM).append(";");
        }
        return s.toString();
    }

    private static void aNewObject() {
        SleepRope x = new SleepRope();
        for (int what = 0; what <= 10; what++) {
            Due.is("new has " + what, x.has(what), 0);
        }
        Due.is("new seed", x.has(11), 1);
        Due.is("NONE", SleepRope.NONE, -1);
        Due.is("new at", x.at(0), -1);
        Due.is("new octet", x.octet(0), -1);
        for (int what = 0; what < 6; what++) {
            Due.is("new status " + what, x.status(what), 0);
        }
    }

    private static void feedAndEnd() {
        SleepRope x = new SleepRope();
        for (int k = 1; k <= 80; k++) {
            Due.is("feed " + k, x.feed(0x20202020, 0x20202020, 0x0a200a20, 0x20202020, 0x20202020), 20 * k);
        }
        Due.is("feed beyond 1600", x.feed(1, 2, 3, 4, 5), -1);
        Due.is("refused feed", x.status(0), 1);
        Due.is("end at 1600", x.end(1600), true);
        Due.is("end at 1601", x.end(1601), false);
        Due.is("end at -1", x.end(-1), false);
        Due.is("refused end", x.status(0), 3);
        Due.is("end at 1581", x.end(1581), true);
        Due.is("feed to 1601", x.feed(1, 2, 3, 4, 5), -1);
        Due.is("end at 1580", x.end(1580), true);
        Due.is("feed to 1600", x.feed(0x20202020, 0x20202020, 0x0a200a20, 0x20202020, 0x20202020), 1600);
        Due.is("dorm of blanks", x.dorm(), 0);
        Due.is("tape has gone", x.end(1), false);
        // Of each number the highest byte first; negative ones too.
        Due.is("feed", x.feed(0x20ff2020, 0, 0, 0, 0), 20);
        Due.is("dorm of byte 255", x.dorm(), -1);
        Due.is("byte 255 is at 1", x.fault(1), 1);
        Due.is("feed of negatives", x.feed(-1, 0, 0, 0, 0), 20);
        Due.is("dorm of negatives", x.dorm(), -1);
        Due.is("they are at 0", x.fault(1), 0);
    }

    private static void dormAndFault() {
        SleepRope x = new SleepRope();
        Due.is("fault ahead of any", x.fault(0), 0);
        Due.is("its place ahead of any", x.fault(1), -1);
        Due.is("fault 2", x.fault(2), -1);
        Due.is("fault -1", x.fault(-1), -1);
        Due.is("dorm of nothing", x.dorm(), 0);
        Due.tape(x, boys(3) + dreams(1));
        Due.is("dorm", x.dorm(), 4);
        x.seed(77);
        x.wake(0, true);
        x.go(3);
        x.dreams(1, 0);
        Due.hear(x, 0, 0, 0);
        Due.tape(x, "boy boy");
        Due.is("dorm with a fault", x.dorm(), -1);
        Due.is("fault of it", x.fault(0), 1);
        Due.is("place of it", x.fault(1), 4);
        Due.is("all stays: boys", x.has(0), 3);
        Due.is("all stays: minute", x.has(4), 3);
        Due.is("all stays: acts", x.has(9), 3);
        Due.is("all stays: awake", x.boy(0, 6), 0);
        Due.is("the tape has gone", x.end(1), false);
        Due.is("nothing is enough", x.end(0), true);
        Due.hear(x, 0, 1, 0);
        Due.is("a's like c's", x.pulled(0, 0), 500);
        int seed = x.has(11);
        Due.tape(x, boys(2) + dreams(1));
        Due.is("dorm again", x.dorm(), 3);
        Due.is("no fault", x.fault(0), 0);
        Due.is("no place", x.fault(1), -1);
        Due.is("minute 0", x.has(4), 0);
        Due.is("no acts", x.has(9), 0);
        Due.is("no tugs", x.has(8), 0);
        Due.is("all asleep", x.has(5), 2);
        Due.is("seed stays", x.has(11), seed);
        Due.is("undo", x.undo(), false);
        Due.is("nothing heard", x.pulled(0, -1), -1);
        Due.is("refused dorms", x.status(1), 1);
    }

    // What an earlier text told is gone, however often texts come.
    private static void dormAfterDorm() {
        SleepRope x = new SleepRope();
        String much = boys(5) + "boy m" + BOY + " snores ghost;" + dreams(4) + "slack 9 at 1;deep 1 when all;pass 2 when all;";
        String less = boys(1) + "boy m" + BOY + ";boy n" + BOY + ";dream d" + DREAM + ";pass 7 when place=0;";
        for (int k = 0; k < 3; k++) {
            Due.tape(x, much);
            Due.is("much", x.dorm(), 13);
            Due.is("deep of much", x.law(0, 50, false), 1);
            Due.tape(x, less);
            Due.is("less", x.dorm(), 5);
            Due.is("boys", x.has(0), 3);
            Due.is("dreams", x.has(1), 1);
            Due.is("laws", x.has(2), 1);
            Due.is("no marks", x.boy(1, 4), 0);
            Due.is("no slack", x.knot(1, 1), 0);
            Due.is("no law of deep", x.law(0, 50, false), 5);
            Due.is("a law of pass", x.law(0, 50, true), 7);
            Due.is("and else", x.law(1, 50, true), 45);
            Due.tape(x, "boy z" + BOY + ";slack 3 at 1;deep 9 when all;dream q" + DREAM);
            Due.is("refused", x.dorm(), -1);
            Due.is("slack stays", x.knot(1, 1), 0);
            Due.is("depth stays", x.law(0, 50, false), 5);
        }
        Due.tape(x, "");
        Due.is("none", x.dorm(), 0);
        Due.is("no boys", x.has(0), 0);
        Due.is("no dreams", x.has(1), 0);
        Due.is("no laws", x.has(2), 0);
    }

    private static void longTexts() {
        SleepRope x = new SleepRope();
        String law = "deep " + times(791, "1+") + "1 when all;";
        Due.is("a text of 1598 bytes", law.length(), 1598);
        Due.tape(x, law.substring(0, 1596) + ";");
        Due.is("cut off", x.fault(0) + x.dorm(), -1);
        Due.tape(x, law + "  ");
        Due.is("1600 bytes", x.dorm(), 1);
        Due.tape(x, law + "bo");
        Due.is("1600 bytes, the last word no STATEMENT", x.dorm(), -1);
        Due.is("at its first byte", x.fault(1), 1598);
        Due.tape(x, law.replace(";", "   "));
        Due.is("1600 bytes, without an end", x.dorm(), -1);
        Due.is("at the text's length", x.fault(1), 1600);
        Due.tape(x, times(1600, ";"));
        Due.is("1600 signs", x.dorm(), -1);
        Due.tape(x, "boy a" + BOY + ";deep " + times(770, "1+") + "1 when all;");
        Due.is("long sums", x.dorm(), 2);
        Due.is("771", x.law(0, 5, false), 771);
        x = new SleepRope();
        Due.tape(x, "boy a" + BOY + ";deep 3 when " + times(240, "1=1 or ") + "1=2;");
        Due.is("long tests", x.dorm() == 2 ? x.law(0, 5, false) : -1, -1);
        Due.tape(x, "boy a" + BOY + ";deep 3 when " + times(200, "1=1and ") + "1=2;");
        Due.is("a blank it needs", x.dorm(), -1);
        Due.tape(x, "boy a" + BOY + ";deep 3 when " + times(190, "1=1 and ") + "1=1;");
        Due.is("long tests", x.dorm(), 2);
        Due.is("all hold", x.law(0, 5, false), 3);
    }

    private static void letters() {
        SleepRope x = Due.dorm("boy abcxyz" + BOY + ";boy q" + BOY + ";dream zed" + DREAM + ";");
        int[] first = {1, 2, 3, 24, 25, 26};
        for (int k = 0; k < 6; k++) {
            Due.is("letter " + k, x.letter(0, 0, k), first[k]);
        }
        Due.is("letter 6", x.letter(0, 0, 6), -1);
        Due.is("letter -1", x.letter(0, 0, -1), -1);
        Due.is("q", x.letter(0, 1, 0), 17);
        Due.is("behind q", x.letter(0, 1, 1), 0);
        Due.is("behind q at last", x.letter(0, 1, 5), 0);
        Due.is("beyond q", x.letter(0, 1, 6), -1);
        Due.is("zed", x.letter(1, 0, 2), 4);
        Due.is("no boy 2", x.letter(0, 2, 0), -1);
        Due.is("no boy -1", x.letter(0, -1, 0), -1);
        Due.is("no dream 1", x.letter(1, 1, 0), -1);
        Due.is("no kind 2", x.letter(2, 0, 0), -1);
        Due.is("no kind -1", x.letter(-1, 0, 0), -1);
    }

    private static void wordsAndBlanks() {
        Due.is("blanks where one likes", Due.dorm(" \n boy\na weight\n5 depth 5 odds 5 pulls 5 ; pass force - 1 when "
            + "[ force<3 or all ]and not force=2 ; deep(force)when[all]; ").has(2), 2);
        Due.is("no blanks by signs", Due.dorm("pass(1+2)*min(3,4)-max(5,6)when[1<2]and not[all];").has(2), 1);
        Due.fault("boy a weight5 depth 5 odds 5 pulls 5;", 1, 12);
        Due.fault("boy a weight 5depth 5 odds 5 pulls 5;", 1, 14);
        Due.fault("boy a weight 0depth 5 odds 5 pulls 5;", 4, 13);
        Due.fault("boy5", 1, 3);
        Due.fault("boy a\tweight", 1, 5);
        Due.fault("boy A" + BOY + ";", 1, 4);
        Due.fault("boy aB" + BOY + ";", 1, 5);
        Due.fault("boya" + BOY + ";", 1, 0);
        Due.fault("#", 1, 0);
        Due.fault(";", 1, 0);
        Due.fault("boy a" + BOY + ";;", 1, 38);
        Due.fault("xyz", 1, 0);
        Due.fault("weight", 1, 0);
        Due.fault("boy", 1, 3);
        Due.fault("boy  \n", 1, 6);
        Due.fault("boy a" + BOY, 1, 37);
        Due.fault("boy a weigh", 1, 6);
        Due.fault("boy a weigh 5", 1, 6);
        Due.fault("boy 5", 1, 4);
        Due.fault("boy a weight depth", 1, 13);
        Due.fault("boy a b", 1, 6);
        Due.fault("boy a" + BOY + " 5;", 1, 38);
        // A 7th letter, a 5th digit at itself, whatever may stand there.
        Due.fault("boy abcdefg" + BOY + ";", 1, 10);
        Due.fault("boy a weightx 5", 1, 12);
        Due.fault("boy 12345", 1, 8);
        Due.fault("boy a weight 00005", 1, 17);
        Due.fault("abcdefgh", 1, 6);
        Due.fault("boy a" + BOY + " 12345", 1, 42);
        Due.fault("pass 1 when 1 ; ; abcdefg", 1, 14);
        Due.is("a NAME of six, a NUMBER of four", Due.dorm("boy abcdef weight 0005 depth 5 odds 5 pulls 5;")
            .boy(0, 0), 5);
    }

    private static void names() {
        String[] own = {"boy", "weight", "depth", "odds", "pulls", "snores", "ghost", "slack", "at", "dream", "tug",
            "lasts", "passes", "pass", "deep", "when", "or", "and", "not", "all", "force", "place", "minute", "beside",
            "felt", "min", "max"};
        for (String word : own) {
            Due.fault("boy " + word + BOY + ";", 1, 4);
            Due.fault("dream " + word + DREAM + ";", 1, 6);
        }
        Due.fault("boy a" + BOY + ";boy a", 2, 42);
        Due.fault("boy a" + BOY + ";dream a" + DREAM + ";", 2, 44);
        Due.fault("dream a" + DREAM + ";boy a", 2, 42);
        Due.fault("dream a" + DREAM + ";dream  a", 2, 45);
        // The 7th letter makes it no NAME at all.
        Due.fault("boy abcdef" + BOY + ";boy abcdefg", 1, 53);
        Due.is("like beginnings", Due.dorm("boy a" + BOY + ";boy aa" + BOY + ";dream aaa" + DREAM + ";").has(0), 2);
    }

    private static void marks() {
        SleepRope x = Due.dorm("boy a" + BOY + " snores ghost;boy b" + BOY + " ghost snores;boy c" + BOY + " ghost;boy d"
            + BOY + ";");
        Due.is("both", x.boy(0, 4), 3);
        Due.is("both, turned", x.boy(1, 4), 3);
        Due.is("one", x.boy(2, 4), 2);
        Due.is("none", x.boy(3, 4), 0);
        Due.fault("boy a" + BOY + " ghost ghost;", 1, 44);
        Due.fault("boy a" + BOY + " snores ghost snores;", 1, 51);
        Due.fault("boy a" + BOY + " wakes;", 1, 38);
        Due.fault("boy a snores" + BOY + ";", 1, 6);
    }

    private static void numbers() {
        String[] parts = {"boy a weight ", " depth ", " odds ", " pulls ", ";"};
        int[] least = {1, 1, 0, 0};
        int[] most = {99, 999, 100, 99};
        bounds(parts, least, most);
        bounds(new String[] {"dream a tug ", " lasts ", " passes ", " odds ", ";"}, new int[] {1, 1, 1, 1},
            new int[] {999, 60, 999, 99});
        bounds(new String[] {"slack ", " at ", ";"}, new int[] {0, 0}, new int[] {99, 10});
        Due.fault("boy a weight 0 #", 4, 13);
    }

    // Each number in turn at its bounds, and beyond them.
    private static void bounds(String[] parts, int[] least, int[] most) {
        for (int i = 0; i < least.length; i++) {
            for (int way = 0; way < 4; way++) {
                int value = way == 0 ? least[i] : way == 1 ? most[i] : way == 2 ? most[i] + 1 : least[i] - 1;
                if (value < 0) {
                    continue;
                }
                StringBuilder s = new StringBuilder();
                int place = 0;
                for (int k = 0; k < least.length; k++) {
                    s.append(parts[k]);
                    place = k == i ? s.length() : place;
                    s.append(k == i ? value : least[k]);
                }
                String text = s.append(parts[least.length]).toString();
                if (way < 2) {
                    Due.is("a DORM: " + text, Due.dorm(text).fault(0), 0);
                } else {
                    Due.fault(text, 4, place);
                }
            }
        }
    }

    private static void tooMany() {
        Due.is("12 boys", Due.dorm(boys(12)).has(0), 12);
        Due.fault(boys(12) + " boy a weight 0", 5, 12 * 39 + 1);
        Due.fault(boys(12) + "boy5", 5, 12 * 39);
        Due.is("6 dreams", Due.dorm(dreams(6)).has(1), 6);
        Due.fault(dreams(6) + "dream", 5, dreams(6).length());
        String laws = times(4, "pass 1 when all;deep 1 when all;");
        Due.is("8 laws", Due.dorm(laws).has(2), 8);
        Due.fault(laws + "pass", 5, laws.length());
        Due.fault(laws + "deep", 5, laws.length());
        String slacks = times(90, "slack 1 at 1;");
        SleepRope x = new SleepRope();
        Due.tape(x, slacks);
        Due.is("90 statements", x.dorm(), 90);
        Due.fault(slacks + " slack 1 at 1;", 5, slacks.length() + 1);
        Due.fault(slacks + "boy", 5, slacks.length());
        Due.fault(slacks + "abcdefgh", 5, slacks.length());
        Due.tape(x, slacks + " \n ");
        Due.is("90 statements and blanks", x.dorm(), 90);
    }

    private static void opened() {
        Due.is("8 open", Due.dorm("pass ((((((((1)))))))) when all;").has(2), 1);
        Due.fault("pass (((((((((1))))))))) when all;", 5, 13);
        Due.is("8 open ones of a TEST", Due.dorm("pass 1 when [[[[[[[[all]]]]]]]];").has(2), 1);
        Due.fault("pass 1 when [[[[[[[[[all]]]]]]]]];", 5, 20);
        Due.is("both sorts", Due.dorm("pass 1 when [[[[((((1))))=min(1,max(2,(3)))]]]];").has(2), 1);
        Due.fault("pass 1 when [[[[(((((1)))))=1]]]];", 5, 20);
        Due.fault("pass min(1,min(1,min(1,min(1,min(1,min(1,min(1,min(1,min(1,2", 5, 56);
        Due.is("closed ones do not count", Due.dorm("pass " + times(9, "(1)+") + "1 when all;").has(2), 1);
        // No DORM goes on with a ( where no PART may begin.
        Due.fault("pass ((((((((1(", 1, 14);
        Due.is("many nots", Due.dorm("pass 1 when " + times(300, "not ") + "all;").has(2), 1);
    }

    private static void tests() {
        Due.fault("pass when all;", 1, 5);
        Due.fault("pass 1 all;", 1, 7);
        Due.fault("pass 1 when;", 1, 11);
        Due.fault("pass 1 when 1;", 1, 13);
        Due.fault("pass 1 when 1<;", 1, 14);
        Due.fault("pass 1 when 1<=2;", 1, 14);
        Due.fault("pass 1 when (1<2);", 1, 14);
        Due.fault("pass 1 when [1<2);", 1, 16);
        Due.fault("pass 1 when [1];", 1, 14);
        Due.fault("pass -1 when all;", 1, 5);
        Due.fault("pass 1+ when all;", 1, 8);
        Due.fault("pass 1 2 when all;", 1, 7);
        Due.fault("pass min 1,2) when all;", 1, 9);
        Due.fault("pass min(1) when all;", 1, 10);
        Due.fault("pass max(1,2,3) when all;", 1, 12);
        Due.fault("pass odds when all;", 1, 5);
        Due.fault("pass 1 when all all;", 1, 16);
        Due.fault("pass 1 when all or;", 1, 18);
        Due.fault("pass 1 when all not all;", 1, 16);
        Due.fault("pass 1 when [[all];", 1, 18);
        Due.fault("pass 1 when all", 1, 15);
        Due.fault("pass 1 when all<2;", 1, 15);
    }

    public static void main(String[] args) {
        aNewObject();
        feedAndEnd();
        dormAndFault();
        dormAfterDorm();
        longTexts();
        letters();
        wordsAndBlanks();
        names();
        marks();
        numbers();
        tooMany();
        opened();
        tests();
        Due.end();
    }
}
