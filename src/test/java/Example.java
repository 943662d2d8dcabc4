/** How SleepRope is used; README.md shows this file and what it prints, and ReadmeTest looks that they are alike. */
public final class Example {
    private Example() {
    }

    public static void main(String[] args) {
        SleepRope rope = new SleepRope();
        tell(rope, "boy al weight 5 depth 20 odds 50 pulls 3; boy bo weight 9 depth 12 odds 0 pulls 4 snores;"
            + " boy cy weight 7 depth 30 odds 99 pulls 8; slack 2 at 0;"
            + " dream wolf tug 40 lasts 3 passes 15 odds 2; deep depth + 4 when beside > 0;");
        int statements = rope.dorm();
        if (statements == SleepRope.NONE) {
            System.out.println("fault " + rope.fault(0) + " at byte " + rope.fault(1));
            return;
        }
        System.out.println(statements + " statements, " + rope.has(0) + " boys");
        System.out.println("cy would feel " + rope.feels(0, 13, 2) + ", bo wakes by " + rope.least(0, 1));
        System.out.println("badness " + rope.bad() + ", of the best order " + rope.best(SleepRope.NONE));
        System.out.println("al dreams: " + rope.dreams(0, 0) + " wakes");
        System.out.println("ten minutes: " + rope.go(10) + " tugs, now it is minute " + rope.has(4));
        System.out.println("undone: " + rope.undo() + ", minute " + rope.has(4));
        System.out.println("wake one who is awake: " + rope.wake(1, true) + ", refused so far: " + rope.status(2));
    }

    // Twenty bytes a call, of each number the highest first; then the tape is cut to what was told.
    private static void tell(SleepRope rope, String text) {
        for (int from = 0; from < text.length(); from += 20) {
            int[] five = new int[5];
            for (int k = 0; k < 20 && from + k < text.length(); k++) {
                five[k / 4] |= text.charAt(from + k) << 24 - 8 * (k % 4);
            }
            rope.feed(five[0], five[1], five[2], five[3], five[4]);
        }
        rope.end(text.length());
    }
}
