/** Promise 13, and what SUMS and TESTS come to. */
public final class LawTest {
    private LawTest() {
    }

    private static SleepRope with(String law) {
        return Due.dorm("boy a weight 7 depth 30 odds 5 pulls 5;boy b weight 9 depth 40 odds 5 pulls 5 snores;"
            + "boy c weight 3 depth 50 odds 5 pulls 5 ghost;boy d weight 5 depth 60 odds 5 pulls 5 snores;"
            + "dream e tug 100 lasts 9 passes 999 odds 1;" + law);
    }

    // By a law of deep: 0 .. 9999 of it can be told.
    private static void sum(String sum, int want) {
        Due.is("deep " + sum, with("deep " + sum + " when all;").law(0, 20, false), want);
    }

    private static void holds(String test, boolean want) {
        Due.is("when " + test, with("deep 1 when " + test + ";deep 2 when all;").law(0, 20, false), want ? 1 : 2);
    }

    private static void sums() {
        sum("7", 7);
        sum("0012", 12);
        sum("10-3-2", 5);
        sum("2+3*4", 14);
        sum("2*3+4", 10);
        sum("20-6/2", 17);
        sum("100/7", 14);
        sum("100%7", 2);
        sum("100/7*2", 28);
        sum("100*2/7", 28);
        sum("7-3%2*5", 2);
        sum("(2+3)*4", 20);
        sum("min(3,8)+max(3,8)*2", 19);
        sum("min(2+3,9-1)", 5);
        sum("force", 20);
        sum("weight", 7);
        sum("depth", 30);
        sum("force-weight-depth", 0);
        sum("0-1", 0);
        sum("9999+1", 9999);
        // The greatest whole number not above, and what then lacks; by 0 both give 0.
        sum("20+(0-7)/2", 16);
        sum("20+7/(0-2)", 16);
        sum("20+(0-7)/(0-2)", 23);
        sum("20+(0-8)/2", 16);
        sum("20+(0-7)%2", 21);
        sum("20+7%(0-2)", 19);
        sum("20+(0-7)%(0-2)", 19);
        sum("20+7/0", 20);
        sum("20+7%0", 20);
        sum("20+(0-7)%0", 20);
        // Above 10 to the 6 is that, below -10 to the 6 likewise.
        sum("9999*9999/1000", 1000);
        sum("(9999*9999+1)/1000", 1000);
        sum("9999*9999*9999*9999/1000", 1000);
        sum("(0-9999)*9999/1000+2000", 1000);
        sum("((0-9999)*9999-9999)/1000+2000", 1000);
        sum("9999*9999+9999-9999-9990*100", 0);
        sum("9999*9999-9990*100", 1000);
        sum("9999*100+100", 9999);
        sum("9999*100-9999*99", 9999);
        sum("9999*100-9999*99-1", 9998);
    }

    private static void holding() {
        holds("all", true);
        holds("not all", false);
        holds("not not all", true);
        holds("not not not all", false);
        holds("1<2", true);
        holds("2<2", false);
        holds("2>1", true);
        holds("2>2", false);
        holds("2=2", true);
        holds("2=1", false);
        holds("1-2<0", true);
        holds("not 2<1", true);
        holds("all or all and not all", true);
        holds("[all or all] and not all", false);
        holds("not all and not all or all", true);
        holds("not all and all", false);
        holds("all and not all", false);
        holds("not all and all and all", false);
        holds("all and not all and all", false);
        holds("all or not all", true);
        holds("not all or all", true);
        holds("1<2 and 2>1 and not 1=2", true);
        holds("not 1<2", false);
        holds("not 2>1", false);
        holds("not 2=2", false);
        holds("not all or not all", false);
        holds("not [all and not all]", true);
        holds("not all or not not all", true);
        holds("force=20 and weight=7 and depth=30 and place=0 and minute=0 and felt=0", true);
        holds("beside=1", true);
    }

    private static void whichLaw() {
        SleepRope x = with("pass 3 when force>50;deep 11 when place=1;pass force-1 when force>30;deep 13 when place<3;"
            + "pass force+9 when force=25;pass 0-5 when force=24;");
        Due.is("first of pass", x.law(0, 51, true), 3);
        Due.is("second of pass", x.law(0, 50, true), 49);
        Due.is("above force", x.law(0, 25, true), 25);
        Due.is("below 0", x.law(0, 24, true), 0);
        Due.is("less his weight", x.law(0, 20, true), 13);
        Due.is("not below 0", x.law(0, 6, true), 0);
        Due.is("a ghost all", x.law(2, 51, true), 51);
        Due.is("first of deep", x.law(1, 51, false), 11);
        Due.is("second of deep", x.law(0, 51, false), 13);
        Due.is("deep of a ghost", x.law(2, 51, false), 13);
        Due.is("else his depth", x.law(3, 51, false), 60);
        x.wake(1, true);
        Due.is("deep of one awake", x.law(1, 51, false), 11);
        Due.is("passed by one awake, were he asleep", x.law(1, 40, true), 39);
        Due.is("place 4", x.law(4, 51, false), -1);
        Due.is("place -1", x.law(-1, 51, false), -1);
        Due.is("force 0", x.law(0, 0, true), -1);
        Due.is("force 10000", x.law(0, 10000, true), -1);
        Due.is("force 9999", x.law(0, 9999, true), 3);
        Due.is("force 1", x.law(0, 1, true), 0);
        Due.is("nothing is refused", x.status(2) + x.status(3), 0);
        Due.is("without boys", new SleepRope().law(0, 5, false), -1);
    }

    private static void whatIsAsked() {
        SleepRope x = with("deep 1000*place+100*minute+10*beside+felt when all;");
        Due.is("at first", x.law(0, 5, false), 10);
        Due.is("no one who snores above the ghost's neighbour", x.law(1, 5, false), 1000);
        Due.is("between two who snore", x.law(2, 5, false), 2020);
        x.tie(2, false);
        Due.is("tied to one", x.law(2, 5, false), 2010);
        x.tie(1, false);
        Due.is("tied to none", x.law(2, 5, false), 2000);
        x.swap(0, 3);
        Due.is("by place, not by number", x.law(1, 5, false), 1010);
        x.wake(3, true);
        x.wake(0, true);
        x.wake(1, true);
        x.wake(2, true);
        x.go(2);
        Due.is("a minute later", x.law(3, 5, false), 3200);
        SleepRope y = with("deep felt when all;");
        y.dreams(0, 0);
        Due.is("felt one", y.boy(1, 10), 1);
        Due.is("felt now", y.law(1, 5, false), 1);
    }

    public static void main(String[] args) {
        sums();
        holding();
        whichLaw();
        whatIsAsked();
        Due.end();
    }
}
