import java.util.List;

/** What lies at a bound, in part I of the document and in promises 1 to 5, 7 and 13: one test for each such sentence. */
public final class EdgeTextTest {
    private static final String BOY = " weight 5 depth 5 odds 5 pulls 5";
    private static final String DREAM = " tug 1 lasts 1 passes 1 odds 1";

    private EdgeTextTest() {
    }

    // ---- promises 1 to 5

    // "No BOYS, no DREAMS; the seed is 1."
    private static void nothingIsThereAtFirst() {
        SleepRope x = new SleepRope();
        for (int what = 0; what <= 10; what++) {
            Due.is("has " + what, x.has(what), 0);
        }
        Due.is("the seed", x.has(11), 1);
        Due.is("no letter of a BOY", x.letter(0, 0, 0), -1);
        Due.is("no letter of a DREAM", x.letter(1, 0, 0), -1);
        Due.is("no BOY", x.boy(0, 0), -1);
        Due.is("no PLACE", x.at(0), -1);
        Due.is("no KNOT", x.knot(0, 0), -1);
        Due.is("no DREAM", x.dream(0, 0), -1);
        Due.is("no TUG", x.tug(0, 0), -1);
        Due.is("no law", x.law(0, 1, true), -1);
        Due.is("none feels", x.feels(0, 1, 1), -1);
        Due.is("none wakes", x.wakes(0, 1), -1);
        Due.is("no least", x.least(0, 1), -1);
        Due.is("no BADNESS", x.bad(), 0);
        Due.is("no best order", x.best(-1), -1);
        Due.is("no EXCHANGES", x.exchange(20), -1);
        Due.is("no two ropes", x.two(0), -1);
        Due.is("none PULLED", x.pulled(0, -1), -1);
        Due.is("no CUT", x.cut(0, -1), -1);
        Due.is("no WALK", x.walk(0), -1);
        Due.is("no BEDS", x.beds(9999, -1), -1);
        Due.is("no NIGHTS", x.nights(1, 1, 0), -1);
        Due.is("no octet", x.octet(0), -1);
        Due.is("no FAULT", x.fault(0), 0);
        Due.is("no place of one", x.fault(1), -1);
        Due.nothingRefused(x);
    }

    // "Twenty bytes come behind those on the tape ..: how many there are; NONE, refused (0), if .. more than 1600."
    private static void feedUpToTheLastByte() {
        SleepRope x = new SleepRope();
        for (int k = 1; k <= 80; k++) {
            Due.is("feed " + k, x.feed(0, 0, 0, 0, 0), 20 * k);
        }
        Due.refused(x, 0, "feed beyond 1600", () -> x.feed(0, 0, 0, 0, 0));
        Due.is("1600 bytes are there still", x.end(1600), true);
        Due.is("1581", x.end(1581), true);
        Due.refused(x, 0, "feed to 1601", () -> x.feed(0, 0, 0, 0, 0));
        Due.is("none of them came", x.end(1581), true);
        Due.is("1580", x.end(1580), true);
        Due.is("feed to 1600", x.feed(0, 0, 0, 0, 0), 1600);
    }

    // "of each number the highest first": each of its bytes is 0 .. 255, whatever the number's sign.
    private static void bytesOfNumbers() {
        SleepRope x = new SleepRope();
        int blanks = 0x20202020;
        int[] shifts = {24, 16, 8, 0};
        for (int number = 0; number < 5; number++) {
            for (int k = 0; k < 4; k++) {
                int[] five = {blanks, blanks, blanks, blanks, blanks};
                five[number] |= 0xff << shifts[k];
                x.feed(five[0], five[1], five[2], five[3], five[4]);
                Due.is("byte 255 in number " + number, x.dorm(), -1);
                Due.is("its place", x.fault(1), 4 * number + k);
            }
        }
    }

    // "true; false, refused (0), if it has not so many, or n is below 0."
    private static void endAtItsBounds() {
        SleepRope x = new SleepRope();
        Due.is("0 of nothing", x.end(0), true);
        Due.refused(x, 0, "1 of nothing", () -> x.end(1));
        x.feed(0, 0, 0, 0, 0);
        Due.refused(x, 0, "21 of 20", () -> x.end(21));
        Due.refused(x, 0, "-1", () -> x.end(-1));
        Due.refused(x, 0, "the least number", () -> x.end(Integer.MIN_VALUE));
        Due.refused(x, 0, "the greatest number", () -> x.end(Integer.MAX_VALUE));
        Due.is("20 of 20, which stayed", x.end(20), true);
        Due.is("19", x.end(19), true);
        Due.refused(x, 0, "20 of 19", () -> x.end(20));
        Due.is("bytes come behind 19", x.feed(0, 0, 0, 0, 0), 39);
        Due.is("0", x.end(0), true);
        Due.refused(x, 0, "1 of 0", () -> x.end(1));
    }

    // "The tape (it goes, refused or not)": of dorm(), hear(), on().
    private static void theTapeGoes() {
        SleepRope x = new SleepRope();
        Due.tape(x, "boy a" + BOY + ";");
        x.dorm();
        Due.is("a DORM", x.feed(0, 0, 0, 0, 0), 20);
        Due.refused(x, 1, "no DORM", x::dorm);
        Due.is("behind no DORM", x.feed(0, 0, 0, 0, 0), 20);
        x.end(2);
        Due.is("HEARD", x.hear(), true);
        Due.is("behind what is HEARD", x.feed(0, 0, 0, 0, 0), 20);
        Due.refused(x, 1, "20 bytes for one PLACE", x::hear);
        Due.is("behind what is not HEARD", x.feed(0, 0, 0, 0, 0), 20);
        Due.refused(x, 5, "no IMAGE", x::on);
        Due.is("behind no IMAGE", x.feed(0, 0, 0, 0, 0), 20);
        x.end(0);
        Due.is("an IMAGE", Due.on(x, Due.image(x)), true);
        Due.is("behind an IMAGE", x.feed(0, 0, 0, 0, 0), 20);
    }

    // "NONE, refused (1), with a FAULT (all stays)."
    private static void allStaysWithAFault() {
        SleepRope x = Due.dorm(Texts.boys(2, 5, 9, 50) + Texts.dreams(2, 5, 3, 9, 1) + "deep 7 when all;" + Texts.slack(3, 0));
        x.seed(12);
        x.go(2);
        x.swap(0, 1);
        Due.hear(x, 0, 2);
        int[] was = Due.seen(x);
        Due.tape(x, "boy z weight 9 depth 9 odds 9 pulls 9 snores;slack 9 at 0;deep 1 when all;dream y tug 9 lasts 9");
        Due.refused(x, 1, "a text with a FAULT", x::dorm);
        Due.stays("it", x, was);
        Due.is("weight stays", x.boy(0, 0), 5);
        Due.is("LAW stays", x.law(0, 9, false), 7);
        Due.is("DREAM stays", x.dream(0, 0), 5);
        Due.is("NAME stays", x.letter(0, 0, 0), 2);
        Due.is("what is HEARD stays", x.pulled(1, -1), 1000);
        Due.is("ACTS can be undone still", x.undo(), true);
    }

    // "Without one it is MINUTE 0, there are no TUGS, nothing is HEARD, no ACT can be undone; the seed stays."
    private static void allIsNewWithoutAFault() {
        String text = Texts.boys(3, 1, 99, 1) + Texts.dreams(1, 5, 60, 1, 1);
        SleepRope x = Due.dorm(text);
        int[] fresh = Due.seen(x);
        Due.hear(x, 0, 5, 4);
        Due.is("HEARD", x.pulled(0, -1), 1000);
        x.dreams(1, 0);
        x.go(3);
        x.swap(0, 2);
        x.wake(0, true);
        x.tie(0, false);
        x.slack(1, 8);
        x.seed(99);
        Due.tape(x, text);
        Due.is("the same text", x.dorm(), 4);
        fresh[10] = 99;
        Due.stays("all but the seed is new", x, fresh);
        Due.is("no TUG", x.tug(0, 0), -1);
        Due.is("HEARD no more", x.pulled(0, -1), -1);
        Due.refused(x, 4, "undo", x::undo);
    }

    // SLACK "0 without", though texts ahead told some.
    private static void slackOfTheTextAlone() {
        SleepRope x = new SleepRope();
        String[] texts = {"slack 9 at 0;slack 8 at 1;", "slack 7 at 1;", "", "slack 6 at 0;#", "", "slack 5 at 0;", ""};
        int[] first = {9, 0, 0, 0, 0, 5, 0};
        int[] second = {8, 7, 0, 0, 0, 0, 0};
        for (int i = 0; i < texts.length; i++) {
            Due.tape(x, Texts.boys(3, 1, 9, 0) + texts[i]);
            x.dorm();
            Due.is("SLACK of KNOT 0, text " + i, x.knot(0, 1), first[i]);
            Due.is("SLACK of KNOT 1, text " + i, x.knot(1, 1), second[i]);
        }
    }

    // "its FAULT (what 0; 0 without, and ahead of any), its place (1; NONE without). NONE for another what."
    private static void faultOfTheLatest() {
        SleepRope x = new SleepRope();
        String[] texts = {"", "#", "boy a weight 0", "", Texts.boys(12, 1, 1, 1) + "boy", "boy a" + BOY + ";boy a"};
        int[] kinds = {0, 1, 4, 0, 5, 2};
        int[] places = {-1, 0, 13, -1, Texts.boys(12, 1, 1, 1).length(), 42};
        for (int i = 0; i < texts.length; i++) {
            Due.tape(x, texts[i]);
            x.dorm();
            Due.is("what 0, text " + i, x.fault(0), kinds[i]);
            Due.is("what 1, text " + i, x.fault(1), places[i]);
            Due.is("what 2", x.fault(2), -1);
            Due.is("what -1", x.fault(-1), -1);
        }
        Due.tape(x, "#");
        x.hear();
        Due.is("hear() tells no FAULT", x.fault(0), 2);
    }

    // ---- how much a text may hold

    // "{ STATEMENT ; } (90 at most)": 0, 1, 90, the 91st, "whatever it is", at its first byte.
    private static void statementsAtMost() {
        Due.is("none", new SleepRope().dorm(), 0);
        SleepRope x = new SleepRope();
        Due.tape(x, "slack 1 at 1;");
        Due.is("one", x.dorm(), 1);
        Due.tape(x, "slack 1 at 1;".repeat(90));
        Due.is("ninety", x.dorm(), 90);
        Due.tape(x, "slack 1 at 1;".repeat(89) + "slack 1 at 1");
        Due.is("the ninetieth without its end", x.dorm(), -1);
        Due.is("at the text's length", x.fault(1), 90 * 13 - 1);
        String[] last = {"slack 1 at 1;", "boy a" + BOY + ";", "dream a" + DREAM + ";", "pass 1 when all;",
            "deep 1 when all;", "slack 100 at 1;", "slack", "boy boy", "zzz", "abcdefg", "12345", "1", ";", "#"};
        for (String it : last) {
            Due.fault("slack 1 at 1;".repeat(90) + it, 5, 1170);
            Due.fault("slack 1 at 1;".repeat(90) + "\n " + it, 5, 1172);
        }
        Due.fault("slack 1 at 1;".repeat(89) + "slack 1 at 11;slack", 4, 1168);
    }

    // "12 BOYS", "6 DREAMS", "8 LAWS of both together"; "5 one too many of a kind of STATEMENT .., at its first byte".
    private static void kindsAtMost() {
        String boys = Texts.boys(12, 1, 1, 1);
        String dreams = Texts.dreams(6, 1, 1, 1, 1);
        String laws = "pass 1 when all;".repeat(8);
        String slacks = "slack 1 at 1;".repeat(59);
        SleepRope x = new SleepRope();
        Due.tape(x, boys + dreams + laws + slacks);
        Due.is("all that there can be", x.dorm(), 12 + 6 + 8 + 59);
        Due.is("12 BOYS", x.has(0), 12);
        Due.is("6 DREAMS", x.has(1), 6);
        Due.is("8 LAWS", x.has(2), 8);
        Due.is("11 KNOTS", x.has(3), 11);
        Due.fault(boys + dreams + laws + "boy zz" + BOY + ";", 5, boys.length() + dreams.length() + laws.length());
        Due.fault(dreams + boys + " boy", 5, dreams.length() + boys.length() + 1);
        Due.fault(boys + dreams + "dream zz", 5, boys.length() + dreams.length());
        Due.fault(dreams + "\ndream 5", 5, dreams.length() + 1);
        Due.fault(laws + "pass #", 5, laws.length());
        Due.fault(laws + "deep 1 when all;", 5, laws.length());
        String deep = "deep 1 when all;".repeat(8);
        Due.is("8 of deep", Due.dorm(deep).has(2), 8);
        Due.fault(deep + "pass", 5, deep.length());
        Due.fault(deep + "deep", 5, deep.length());
        // Each kind alone is counted: the others may still come.
        Due.is("a DREAM behind 12 BOYS", Due.dorm(boys + "dream zz" + DREAM + ";").has(1), 1);
        Due.is("a LAW behind 6 DREAMS", Due.dorm(dreams + "deep 1 when all;").has(2), 1);
        Due.is("a BOY behind 8 LAWS", Due.dorm(laws + "boy zz" + BOY + ";").has(0), 1);
    }

    // NUMBERS at their least and greatest, and what is beyond, are in TextTest; here what 0s ahead of them do.
    private static void numbersWithNoughtsAhead() {
        SleepRope x = Due.dorm("boy a weight 0099 depth 0999 odds 0100 pulls 0099;boy b weight 0001 depth 0001 odds 0000 pulls"
            + " 0000;dream c tug 0999 lasts 0060 passes 0999 odds 0099;slack 0099 at 0000;slack 0099 at 0010;");
        int[] most = {99, 999, 100, 99};
        int[] least = {1, 1, 0, 0};
        int[] dream = {999, 60, 999, 99};
        for (int what = 0; what < 4; what++) {
            Due.is("most " + what, x.boy(0, what), most[what]);
            Due.is("least " + what, x.boy(1, what), least[what]);
            Due.is("of the DREAM " + what, x.dream(0, what), dream[what]);
        }
        Due.is("SLACK", x.knot(0, 1), 99);
        Due.fault("boy a weight 0100", 4, 13);
        Due.fault("boy a weight 0000", 4, 13);
        Due.fault("boy a weight 9999", 4, 13);
        Due.fault("slack 0100", 4, 6);
        Due.fault("slack 1 at 0011", 4, 11);
        Due.fault("slack 1 at 00011", 1, 15);
        Due.fault("boy a weight 10000", 1, 17);
    }

    // "a KNOT 0 .. 10; the last one of a KNOT counts": also of a KNOT that is not there.
    private static void slackAtItsKnots() {
        SleepRope x = Due.dorm(Texts.boys(12, 1, 1, 1) + "slack 1 at 0;slack 2 at 10;slack 3 at 10;slack 4 at 0;slack 0 at 5;");
        Due.is("KNOT 0", x.knot(0, 1), 4);
        Due.is("KNOT 10", x.knot(10, 1), 3);
        Due.is("KNOT 5", x.knot(5, 1), 0);
        Due.is("KNOT 1", x.knot(1, 1), 0);
        Due.is("KNOT 11", x.knot(11, 1), -1);
        SleepRope y = Due.dorm(Texts.slack(9, 1) + Texts.boys(2, 1, 1, 1) + Texts.slack(9, 10));
        Due.is("the only KNOT", y.knot(0, 1), 0);
        Due.is("no KNOT 1", y.knot(1, 1), -1);
    }

    // "MARKS snores, ghost, each once at most"; "a MARK that was told already of that BOY, at its first byte" is FAULT 1.
    private static void marksAtMost() {
        int length = ("boy a" + BOY).length();
        String[] good = {"", " snores", " ghost", " snores ghost", " ghost snores"};
        int[] bits = {0, 1, 2, 3, 3};
        for (int i = 0; i < good.length; i++) {
            Due.is("MARKS" + good[i], Due.dorm("boy a" + BOY + good[i] + ";").boy(0, 4), bits[i]);
        }
        Due.fault("boy a" + BOY + " snores snores;", 1, length + 8);
        Due.fault("boy a" + BOY + " ghost ghost;", 1, length + 7);
        Due.fault("boy a" + BOY + " snores ghost ghost;", 1, length + 14);
        Due.fault("boy a" + BOY + " ghost snores ghost;", 1, length + 14);
        Due.fault("boy a" + BOY + " ghost snores snores;", 1, length + 14);
        Due.is("once of each", Due.dorm("boy a" + BOY + " ghost;boy b" + BOY + " ghost;").boy(1, 4), 2);
    }

    // ---- words, numbers, blanks

    // "Blanks (10, 32)": no other byte is one, and no byte but letters, digits and signs is any good.
    private static void whatIsABlank() {
        for (int b = 0; b <= 255; b++) {
            String sign = "" + (char) b;
            boolean isBlank = b == 10 || b == 32;
            if (isBlank) {
                Due.is("byte " + b, Due.dorm(sign).has(0), 0);
                Due.is("between words: " + b, Due.dorm("boy" + sign + "a" + BOY + ";" + sign).has(0), 1);
            } else {
                Due.fault(sign, 1, 0);
                boolean isLetter = b >= 'a' && b <= 'z';
                Due.fault("boy" + sign + "a" + BOY + ";", 1, isLetter ? 0 : 3);
                Due.fault("pass 1 when all;" + sign, 1, 16);
            }
        }
    }

    // "words and numbers side by side need one": none where a sign stands between.
    private static void blanksWhereTheyMustBe() {
        Due.is("by signs", Due.dorm("pass(force)when[all]and[all]or[1<2];deep 1+2 when 1<2;").has(2), 2);
        Due.is("many", Due.dorm("\n  slack  \n\n 1\nat 1 \n;\n\n").has(2), 0);
        Due.fault("slack1 at 1;", 1, 5);
        Due.fault("slack 1at 1;", 1, 7);
        Due.fault("slack 1 at1;", 1, 10);
        Due.fault("slack 100at 1;", 4, 6);
        Due.fault("pass1 when all;", 1, 4);
        Due.fault("pass 1when all;", 1, 6);
        Due.fault("pass force2 when all;", 1, 10);
        Due.fault("pass 1 when 1<2and all;", 1, 15);
        Due.fault("pass min2(1,2) when all;", 1, 8);
        Due.fault("pass 1 2 when all;", 1, 7);
        // Two words without one are a word.
        Due.fault("boya" + BOY + ";", 1, 0);
        Due.fault("slack 1 atat 1;", 1, 8);
        Due.fault("pass 1 when notall;", 1, 12);
        Due.fault("passforce when all;", 1, 6);
    }

    // "NAMES: 1 to 6 letters.": each letter, each length; the 7th is FAULT 1 at itself.
    private static void namesAtTheirBounds() {
        SleepRope x = Due.dorm("boy a" + BOY + ";boy zzzzzz" + BOY + ";boy mnopqr" + BOY + ";boy bc" + BOY + ";dream z" + DREAM
            + ";dream defghi" + DREAM + ";dream stuvwx" + DREAM + ";");
        Due.is("a", x.letter(0, 0, 0), 1);
        Due.is("behind a", x.letter(0, 0, 1), 0);
        Due.is("at last behind a", x.letter(0, 0, 5), 0);
        Due.is("the sixth z", x.letter(0, 1, 5), 26);
        Due.is("c", x.letter(0, 3, 1), 3);
        Due.is("behind c", x.letter(0, 3, 2), 0);
        for (int k = 0; k < 6; k++) {
            Due.is("of m .. r " + k, x.letter(0, 2, k), 13 + k);
            Due.is("of d .. i " + k, x.letter(1, 1, k), 4 + k);
            Due.is("of s .. x " + k, x.letter(1, 2, k), 19 + k);
            Due.is("of z " + k, x.letter(1, 0, k), k == 0 ? 26 : 0);
        }
        int[][] none = {{0, 0, 6}, {0, 0, -1}, {0, 4, 0}, {0, -1, 0}, {1, 0, 6}, {1, 0, -1}, {1, 3, 0}, {1, -1, 0}, {2, 0, 0},
            {-1, 0, 0}};
        for (int[] it : none) {
            Due.is("letter " + it[0] + " " + it[1] + " " + it[2], x.letter(it[0], it[1], it[2]), -1);
        }
        Due.nothingRefused(x);
        Due.fault("boy abcdefg", 1, 10);
        Due.fault("dream abcdefghij", 1, 12);
    }

    // "a 7th letter, a 5th digit at itself, whatever may stand there": wherever it is, and whatever it begins with.
    private static void tooLongAnywhere() {
        String[] ahead = {"", "boy ", "boy a", "boy a weight ", "boy a weight 5", "boy a" + BOY, "boy a" + BOY + " snores",
            "boy a" + BOY + ";", "slack ", "slack 1", "slack 1 at ", "dream ", "dream a tug ", "pass ", "pass 1",
            "pass 1 when ", "pass 1 when all", "pass 1 when all;", "pass min", "pass min(", "pass min(1,", "deep (1",
            "deep (1)", "deep 1 when [all", "deep 1 when 1<", "deep 1 when not "};
        for (String it : ahead) {
            String gap = it.isEmpty() ? "" : " ";
            int at = (it + gap).length();
            Due.fault(it + gap + "abcdefg", 1, at + 6);
            Due.fault(it + gap + "abcdefghi;", 1, at + 6);
            Due.fault(it + gap + "weights", 1, at + 6);
            Due.fault(it + gap + "minutes", 1, at + 6);
            Due.fault(it + gap + "12345", 1, at + 4);
            Due.fault(it + gap + "00000;", 1, at + 4);
            Due.fault(it + gap + "99999", 1, at + 4);
        }
        // A word, a number with no DORM to go on with is at its own first byte, however long it is up to there.
        Due.fault("boy a abcdef", 1, 6);
        Due.fault("boy 1234", 1, 4);
        Due.fault("abcdef", 1, 0);
        Due.fault("1234", 1, 0);
    }

    // "OWN WORDS, which no NAME is": but what is a letter more or less is one.
    private static void almostOwnWords() {
        String[] names = {"bo", "boys", "weigh", "dept", "depths", "odd", "oddss", "pull", "pullsx", "snore", "ghos", "ghosts",
            "slac", "slacks", "a", "ats", "drea", "dreams", "tu", "tugs", "last", "lastsx", "passe", "passi", "pas", "dee",
            "deeps", "whe", "whens", "o", "ors", "an", "ands", "no", "nots", "al", "alls", "forc", "forces", "plac", "places",
            "minut", "besid", "fel", "felts", "mi", "mins", "ma", "maxx", "yob"};
        for (String name : names) {
            Due.is("a BOY " + name, Due.dorm("boy " + name + BOY + ";").has(0), 1);
            Due.is("a DREAM " + name, Due.dorm("dream " + name + DREAM + ";").has(1), 1);
        }
    }

    // Each OWN WORD where a STATEMENT, a PART, a FACT, a MARK must begin: "the first byte with which no DORM goes on".
    private static void ownWordsWhereOthersMustBe() {
        String[] own = {"boy", "weight", "depth", "odds", "pulls", "snores", "ghost", "slack", "at", "dream", "tug", "lasts",
            "passes", "pass", "deep", "when", "or", "and", "not", "all", "force", "place", "minute", "beside", "felt", "min",
            "max"};
        List<String> parts = List.of("force", "weight", "depth", "place", "minute", "beside", "felt");
        List<String> statements = List.of("boy", "slack", "dream", "pass", "deep");
        int marks = ("boy a" + BOY + " ").length();
        for (String word : own) {
            int behind = word.length();
            boolean isPart = parts.contains(word);
            boolean isPair = word.equals("min") || word.equals("max");
            Due.fault(word + ";", 1, statements.contains(word) ? behind : 0);
            if (isPart) {
                Due.is("PART " + word, Due.dorm("pass " + word + " when 0<" + word + ";").has(2), 1);
            } else {
                Due.fault("pass " + word + " when all;", 1, isPair ? 5 + behind + 1 : 5);
                Due.fault("pass 1+" + word + " when all;", 1, isPair ? 7 + behind + 1 : 7);
                Due.fault("pass 1 when 1<" + word + ";", 1, isPair ? 14 + behind : 14);
            }
            if (word.equals("all")) {
                Due.is("FACT " + word, Due.dorm("pass 1 when all;").has(2), 1);
            } else {
                Due.fault("pass 1 when " + word + ";", 1, isPart || isPair || word.equals("not") ? 12 + behind : 12);
            }
            if (word.equals("snores") || word.equals("ghost")) {
                Due.is("MARK " + word, Due.dorm("boy a" + BOY + " " + word + ";").has(0), 1);
            } else {
                Due.fault("boy a" + BOY + " " + word + ";", 1, marks);
            }
        }
    }

    // A KIND's words in their order: another one in its stead is FAULT 1, at its first byte.
    private static void wordsInTheirOrder() {
        String[] texts = {"boy a weight 1 depth 1 odds 1 pulls 1;", "dream a tug 1 lasts 1 passes 1 odds 1;", "slack 1 at 1;"};
        for (String text : texts) {
            String[] words = text.split("[ ;]");
            int at = words[0].length() + 1 + (words[1].equals("a") ? 2 : 0);
            for (int k = words[1].equals("a") ? 2 : 1; k < words.length; k++) {
                String ahead = text.substring(0, at);
                boolean isWord = !words[k].equals("1");
                for (String other : new String[] {"boy", "weight", "tug", "at", "odds", "x", "7", ";", "("}) {
                    boolean isDue = other.equals(words[k]) || (!isWord && other.equals("7"));
                    if (!isDue) {
                        Due.fault(ahead + other, 1, at);
                    }
                }
                at += words[k].length() + 1;
            }
        }
    }

    // "NAMES are unlike ones (of BOYS and DREAMS)": "2 a NAME that is there already, at its first byte".
    private static void namesThatAreThere() {
        String boys = "boy a" + BOY + ";boy ab" + BOY + ";boy abcdef" + BOY + ";";
        String dreams = "dream b" + DREAM + ";dream ba" + DREAM + ";dream fedcba" + DREAM + ";";
        int length = (boys + dreams).length();
        for (String name : new String[] {"a", "ab", "abcdef", "b", "ba", "fedcba"}) {
            Due.fault(boys + dreams + "boy " + name, 2, length + 4);
            Due.fault(boys + dreams + "dream " + name + "#", 2, length + 6);
            Due.fault(dreams + boys + "boy \n" + name + "5", 2, length + 5);
        }
        for (String name : new String[] {"aa", "abc", "abcde", "bab", "fedcb", "c", "bb"}) {
            Due.is("another NAME " + name, Due.dorm(boys + dreams + "boy " + name + BOY + ";").has(0), 4);
        }
    }

    // ---- where a text ends too soon

    private static final String WHOLE = "boy xyz weight 17 depth 123 odds 100 pulls 99 snores ghost ; dream uvw tug 123 lasts 12"
        + " passes 123 odds 12 ; slack 12 at 10 ; pass min ( force , 1234 ) * ( weight + 1 ) / depth % 7 - place when not force"
        + " < 12 and [ beside = 0 or all ] or felt > 3 ; deep max ( felt , 1 ) when all ; ";

    // "1 the first byte with which no DORM goes on (WORDS .. whole, at their first byte; at the text's length, if it ends
    // too soon": of each beginning of a text.
    private static void eachBeginning() {
        SleepRope x = null;
        for (int length = 0; length <= WHOLE.length(); length++) {
            String text = WHOLE.substring(0, length);
            if (length % 20 == 0) {
                x = new SleepRope();
            }
            int first = text.lastIndexOf(' ') + 1;
            String word = text.substring(first);
            boolean isWhole = WHOLE.startsWith(word + " ", first);
            boolean isName = "xyz".startsWith(word) || "uvw".startsWith(word);
            boolean isGood = isWhole || isName || Character.isDigit((word + " ").charAt(0));
            boolean isDorm = text.isBlank() || text.stripTrailing().endsWith(";");
            Due.tape(x, text);
            Due.is("dorm() of " + text, x.dorm(), isDorm ? text.length() - text.replace(";", "").length() : -1);
            Due.is("where " + text + " ends", x.fault(1), isDorm ? -1 : isGood || word.isEmpty() ? length : first);
            Due.is("FAULT of " + text, x.fault(0), isDorm ? 0 : 1);
        }
    }

    // "FAULTS, the first along the text": another one behind it is not told.
    private static void theFirstFault() {
        Due.fault("boy a weight 0 depth 0", 4, 13);
        Due.fault("boy a weight 0 weight", 4, 13);
        Due.fault("boy a" + BOY + ";boy a weight 0", 2, 42);
        Due.fault("boy a" + BOY + ";slack 100 at 1;boy a", 4, 44);
        Due.fault("boy 5;boy a weight 0", 1, 4);
        Due.fault(Texts.boys(12, 1, 1, 1) + "boy ba weight 0", 5, Texts.boys(12, 1, 1, 1).length());
        Due.fault(Texts.boys(11, 1, 1, 1) + "boy ba weight 0;boy", 2, Texts.boys(11, 1, 1, 1).length() + 4);
        Due.fault("pass (((((((((1 when all;#", 5, 13);
        Due.fault("pass #(((((((((", 1, 5);
        Due.fault("slack 1 at 1;slack 1 at 12345", 1, 28);
        Due.fault("slack 1 at 1;slack 1234 at 12345", 4, 19);
    }

    // ---- LAWS

    // "a 9th ( [ that is open at once, at itself"
    private static void openAtOnce() {
        for (int open = 8; open <= 9; open++) {
            String[] texts = {"pass " + "(".repeat(open) + "1" + ")".repeat(open) + " when all;",
                "pass " + "min(".repeat(open) + "1" + ",1)".repeat(open) + " when all;",
                "pass " + "max(1,".repeat(open) + "1" + ")".repeat(open) + " when all;",
                "pass 1 when " + "[".repeat(open) + "all" + "]".repeat(open) + ";",
                "pass 1 when " + "not [".repeat(open) + "all" + "]".repeat(open) + ";",
                "pass 1 when " + "[".repeat(open - 1) + "1<(2)" + "]".repeat(open - 1) + ";",
                "pass 1 when " + "[".repeat(open - 1) + "(2)<1" + "]".repeat(open - 1) + ";",
                "pass 1 when " + "[".repeat(4) + "1<" + "(".repeat(open - 4) + "1" + ")".repeat(open - 4) + "]".repeat(4) + ";"};
            int[] ninth = {13, 8 * 4 + 5 + 3, 8 * 6 + 5 + 3, 20, 8 * 5 + 12 + 4, 12 + 8 + 2, 12 + 8, 12 + 4 + 2 + 4};
            for (int i = 0; i < texts.length; i++) {
                if (open == 8) {
                    Due.is("8 open: " + texts[i], Due.dorm(texts[i]).has(2), 1);
                } else {
                    Due.fault(texts[i], 5, ninth[i]);
                }
            }
        }
        // What is closed is open no more, and each LAW begins anew.
        String eight = "(".repeat(8) + "1" + ")".repeat(8);
        Due.is("eight and eight", Due.dorm("pass " + eight + "+" + eight + " when " + eight + "<" + eight + ";deep " + eight
            + " when [[[[[[[[all]]]]]]]] or [[[[[[[[all]]]]]]]];").has(2), 2);
        Due.fault("pass " + eight + "+((((((((((1", 5, 5 + 17 + 1 + 8);
        // A 9th where none may stand is FAULT 1, as the eighth would be.
        Due.fault("pass ((((((((1(", 1, 14);
        Due.fault("pass ((((((((when", 1, 13);
        Due.fault("pass ((((((((min when", 1, 17);
        Due.fault("pass ((((((((min(", 5, 16);
        Due.fault("pass ((((((((]", 1, 13);
        Due.fault("pass 1 when [[[[[[[[1[", 1, 21);
        Due.fault("pass ((((((((1[", 1, 14);
    }

    // What was opened and is not closed, where a LAW may go on otherwise.
    private static void whatIsNotClosed() {
        Due.fault("pass (1 when all;", 1, 8);
        Due.fault("pass (1, when all;", 1, 7);
        Due.fault("pass min(1 when all;", 1, 11);
        Due.fault("pass max(1) when all;", 1, 10);
        Due.fault("pass max(1+2;", 1, 12);
        Due.fault("pass min(1,2 when all;", 1, 13);
        Due.fault("pass min(1,2,3) when all;", 1, 12);
        Due.fault("pass 1, 2 when all;", 1, 6);
        Due.fault("pass 1) when all;", 1, 6);
        Due.fault("pass 1 when [all;", 1, 16);
        Due.fault("pass 1 when [all or [all];", 1, 25);
        Due.fault("pass 1 when all];", 1, 15);
        Due.fault("pass 1 when [1<2);", 1, 16);
        Due.fault("pass 1 when 1<(2;", 1, 16);
        Due.fault("pass 1 when 1<(2];", 1, 16);
        Due.fault("pass 1 when (1<2);", 1, 14);
        Due.fault("pass 1 when 1<[2];", 1, 14);
        Due.fault("pass [1] when all;", 1, 5);
        Due.fault("pass () when all;", 1, 6);
        Due.fault("pass 1 when [];", 1, 13);
    }

    // The SUM's worth, told by a LAW of deep with 5000 of it: 0 .. 9999 can be seen.
    private static void sum(String sum, int want) {
        SleepRope x = Due.dorm("boy a weight 7 depth 30 odds 5 pulls 5;deep 5000+(" + sum + ") when all;");
        Due.is(sum, x.law(0, 20, false) - 5000, want);
    }

    // "each sum, difference, product above 10 to the 6 is that, below -10 to the 6 likewise."
    private static void sumsAtTheirGreatest() {
        String million = "1000*1000";
        String less = "(0-1000)*1000";
        sum(million + "-9999*100", 100);
        sum(million + "-1-9999*100", 99);
        sum(million + "+1-9999*100", 100);
        sum("9999*100+99-9999*100", 99);
        sum("9999*100+100-9999*100", 100);
        sum("9999*100+101-9999*100", 100);
        sum("1001*1000-9999*100", 100);
        sum("1000*1001-9999*100", 100);
        sum("999*1001-9999*100", 99);
        sum("9999*9999-9999*100", 100);
        sum(million + "*(" + million + ")-9999*100", 100);
        sum("0-(" + less + ")-9999*100", 100);
        sum(million + "-(" + less + ")-9999*100", 100);
        sum("1-(" + less + ")-9999*100", 100);
        sum("0-1-(" + less + ")-9999*100", 99);
        sum(less + "+9999*100", -100);
        sum(less + "+1+9999*100", -99);
        sum(less + "-1+9999*100", -100);
        sum("0-9999*100-99+9999*100", -99);
        sum("0-9999*100-100+9999*100", -100);
        sum("0-9999*100-101+9999*100", -100);
        sum("(0-1001)*1000+9999*100", -100);
        sum(less + "*(" + million + ")+9999*100", -100);
        sum(less + "*(" + less + ")-9999*100", 100);
        sum(less + "+(" + less + ")+9999*100", -100);
        sum(less + "-(" + million + ")+9999*100", -100);
        // A quotient, a rest are never beyond; min and max leave what they take.
        sum(million + "/1-9999*100", 100);
        sum(less + "/(0-1)-9999*100", 100);
        sum("max(9999*9999,5)-9999*100", 100);
        sum("min(0-9999*9999,5)+9999*100", -100);
        sum("9999*9999%9999", 100);
    }

    // "/ gives the greatest whole number not above, % what then lacks (by 0 both give 0)"
    private static void quotientsAndRests() {
        int[][] due = {{7, 2, 3, 1}, {6, 2, 3, 0}, {1, 2, 0, 1}, {0, 2, 0, 0}, {-1, 2, -1, 1}, {-2, 2, -1, 0}, {-7, 2, -4, 1},
            {7, -2, -4, -1}, {6, -2, -3, 0}, {1, -2, -1, -1}, {-1, -2, 0, -1}, {-7, -2, 3, -1}, {-6, -2, 3, 0}, {7, 1, 7, 0},
            {-7, 1, -7, 0}, {7, -1, -7, 0}, {-7, -1, 7, 0}, {7, 0, 0, 0}, {-7, 0, 0, 0}, {0, 0, 0, 0}, {7, 7, 1, 0},
            {7, 8, 0, 7}, {-7, 8, -1, 1}, {7, -8, -1, -1}, {-8, 8, -1, 0}};
        for (int[] it : due) {
            String a = it[0] < 0 ? "(0-" + -it[0] + ")" : "" + it[0];
            String b = it[1] < 0 ? "(0-" + -it[1] + ")" : "" + it[1];
            sum(a + "/" + b, it[2]);
            sum(a + "%" + b, it[3]);
        }
        sum("7/(weight-7)", 0);
        sum("7%(weight-7)", 0);
    }

    // "All from the left on": of * / % among each other, of + - among each other.
    private static void fromTheLeftOn() {
        sum("20-5-4", 11);
        sum("20-5+4", 19);
        sum("20-(5+4)", 11);
        sum("60/2*3", 90);
        sum("60/(2*3)", 10);
        sum("60%7*3", 12);
        sum("60*7%8", 4);
        sum("60*(7%8)", 420);
        sum("60/7%3", 2);
        sum("60%7/3", 1);
        sum("1+2*3-4/2", 5);
        sum("0-7/2", -3);
        sum("(0-7)/2", -4);
        sum("9999*9999-9999*9999+5", 5);
        sum("5+9999*9999-9999*9999", 0);
    }

    // "SIGN < or > or =": what is equal is neither less nor more.
    private static void signsAtTheirBounds() {
        int[][] pairs = {{4, 5}, {5, 5}, {6, 5}, {0, 0}};
        for (int[] it : pairs) {
            String[] signs = {"<", ">", "="};
            boolean[] holds = {it[0] < it[1], it[0] > it[1], it[0] == it[1]};
            for (int i = 0; i < 3; i++) {
                String test = it[0] + signs[i] + it[1];
                String laws = "deep 1 when " + test + ";deep 2 when not " + test + ";deep 3 when all;";
                Due.is("when " + test, Due.dorm("boy a" + BOY + ";" + laws).law(0, 1, false), holds[i] ? 1 : 2);
            }
        }
    }

    // "with a force (1 .. 9999) now: his DEEP .., what he would pass on ..; NONE when there is none such."
    private static void lawAtItsBounds() {
        SleepRope x = Due.dorm(Texts.boys(2, 5, 9, 0) + Texts.boy("g", 5, 9, 0, 0, "ghost") + "deep force when place=1;"
            + "pass force+1 when place=1;");
        for (int place = 0; place < 3; place++) {
            Due.is("force 0", x.law(place, 0, false), -1);
            Due.is("force 0, passed", x.law(place, 0, true), -1);
            Due.is("force 10000", x.law(place, 10000, false), -1);
            Due.is("force 10000, passed", x.law(place, 10000, true), -1);
            Due.is("force -1", x.law(place, -1, true), -1);
        }
        Due.is("DEEP by 1", x.law(1, 1, false), 1);
        Due.is("DEEP by 9999", x.law(1, 9999, false), 9999);
        Due.is("passed of 1", x.law(1, 1, true), 1);
        Due.is("passed of 9999", x.law(1, 9999, true), 9999);
        Due.is("less his weight: all", x.law(0, 5, true), 0);
        Due.is("less his weight: 1", x.law(0, 6, true), 1);
        Due.is("less than his weight", x.law(0, 4, true), 0);
        Due.is("less his weight of the greatest", x.law(0, 9999, true), 9994);
        Due.is("a ghost of 1", x.law(2, 1, true), 1);
        Due.is("a ghost of 9999", x.law(2, 9999, true), 9999);
        Due.is("DEEP of a ghost", x.law(2, 9999, false), 9);
        Due.is("PLACE -1", x.law(-1, 1, false), -1);
        Due.is("PLACE 3", x.law(3, 1, false), -1);
        x.wake(0, true);
        x.wake(2, true);
        Due.is("DEEP of one awake", x.law(0, 5, false), 9);
        Due.is("passed by one awake, were he asleep", x.law(0, 6, true), 1);
        Due.is("a ghost awake", x.law(2, 7, true), 7);
        Due.nothingRefused(x);
    }

    // "the SUM of the first LAW of deep whose TEST holds, 0 .. 9999 (below is 0, above 9999)"; of pass "0 .. force".
    private static void lawsAreCut() {
        String[] sums = {"0-1", "0", "1", "9998", "9999", "9999+1", "9999*9999", "0-9999*9999", "20", "21", "19"};
        int[] deep = {0, 0, 1, 9998, 9999, 9999, 9999, 0, 20, 21, 19};
        int[] passed = {0, 0, 1, 20, 20, 20, 20, 0, 20, 20, 19};
        for (int i = 0; i < sums.length; i++) {
            SleepRope x = Due.dorm("boy a" + BOY + ";deep " + sums[i] + " when all;pass " + sums[i] + " when all;");
            Due.is("deep " + sums[i], x.law(0, 20, false), deep[i]);
            Due.is("pass " + sums[i], x.law(0, 20, true), passed[i]);
        }
        // No LAW whose TEST holds: as without one. The 8th of 8 may be the first that holds.
        SleepRope none = Due.dorm("boy a" + BOY + ";" + "deep 1 when 1=2;".repeat(4) + "pass 1 when 1=2;".repeat(4));
        Due.is("no DEEP by LAW", none.law(0, 20, false), 5);
        Due.is("nothing passed by LAW", none.law(0, 20, true), 15);
        SleepRope last = Due.dorm("boy a" + BOY + ";" + "deep 1 when 1=2;".repeat(7) + "deep 77 when all;");
        Due.is("the eighth holds", last.law(0, 20, false), 77);
    }

    // "beside: how many of the BOYS in PLACES next to his, to whom he is tied, snore": 0, 1, 2; at both ends of the rope.
    private static void besideAtTheEnds() {
        String snorers = Texts.boy("a", 1, 9, 0, 0, "snores") + Texts.boy("b", 1, 9, 0, 0, "snores")
            + Texts.boy("c", 1, 9, 0, 0, "ghost snores");
        SleepRope x = Due.dorm(snorers + "deep beside when all;");
        int[] due = {1, 2, 1};
        for (int place = 0; place < 3; place++) {
            Due.is("beside in PLACE " + place, x.law(place, 1, false), due[place]);
        }
        x.tie(0, false);
        int[] undone = {0, 1, 1};
        for (int place = 0; place < 3; place++) {
            Due.is("KNOT 0 undone, PLACE " + place, x.law(place, 1, false), undone[place]);
        }
        x.tie(0, true);
        x.tie(1, false);
        int[] other = {1, 1, 0};
        for (int place = 0; place < 3; place++) {
            Due.is("KNOT 1 undone, PLACE " + place, x.law(place, 1, false), other[place]);
        }
        SleepRope one = Due.dorm(Texts.boy("a", 1, 9, 0, 0, "snores") + "deep beside when all;");
        Due.is("he himself doesn't count", one.law(0, 1, false), 0);
    }

    // PARTS at the greatest that they can be: minute 999, place 11, felt beyond what an IMAGE tells.
    private static void partsAtTheirGreatest() {
        SleepRope x = Due.dorm(Texts.boys(12, 1, 9, 0) + "deep minute when place<11;deep place when place=11;");
        int[] image = Due.image(x);
        image[0] = 3;
        image[1] = 231;
        Due.is("on", Due.on(x, image), true);
        Due.is("minute 999", x.law(0, 1, false), 999);
        Due.is("place 11", x.law(11, 1, false), 11);
        SleepRope y = Due.dorm(Texts.boys(2, 99, 999, 0) + Texts.dreams(1, 1, 1, 999, 1)
            + "deep felt-9000 when place=0;deep depth+weight when all;");
        int[] felt = Due.image(y);
        felt[7] = 39;
        felt[8] = 15;
        Due.is("on with 9999", Due.on(y, felt), true);
        Due.is("felt 9999", y.law(0, 1, false), 999);
        y.dreams(1, 0);
        Due.is("felt 10000", y.law(0, 1, false), 1000);
        Due.is("depth and weight", y.law(1, 1, false), 1098);
    }

    public static void main(String[] args) {
        nothingIsThereAtFirst();
        feedUpToTheLastByte();
        bytesOfNumbers();
        endAtItsBounds();
        theTapeGoes();
        allStaysWithAFault();
        allIsNewWithoutAFault();
        slackOfTheTextAlone();
        faultOfTheLatest();
        statementsAtMost();
        kindsAtMost();
        numbersWithNoughtsAhead();
        slackAtItsKnots();
        marksAtMost();
        whatIsABlank();
        blanksWhereTheyMustBe();
        namesAtTheirBounds();
        tooLongAnywhere();
        almostOwnWords();
        ownWordsWhereOthersMustBe();
        wordsInTheirOrder();
        namesThatAreThere();
        eachBeginning();
        theFirstFault();
        openAtOnce();
        whatIsNotClosed();
        sumsAtTheirGreatest();
        quotientsAndRests();
        fromTheLeftOn();
        signsAtTheirBounds();
        lawAtItsBounds();
        lawsAreCut();
        besideAtTheEnds();
        partsAtTheirGreatest();
        Due.end();
    }
}
