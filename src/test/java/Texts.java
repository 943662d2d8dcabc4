/** Texts of DORMS, for the tests of what lies at a bound. */
final class Texts {
    private Texts() {
    }

    static String boy(String name, int weight, int depth, int odds, int pulls, String marks) {
        return "boy " + name + " weight " + weight + " depth " + depth + " odds " + odds + " pulls " + pulls
            + (marks.isEmpty() ? "" : " ") + marks + ";";
    }

    /** His NAME is ba, bb, .. by his number. */
    static String boy(int number, int weight, int depth, int odds) {
        return boy("b" + (char) ('a' + number), weight, depth, odds, 0, "");
    }

    static String boys(int n, int weight, int depth, int odds) {
        return boysFrom(0, n, weight, depth, odds);
    }

    /** Those of the numbers first .. end - 1. */
    static String boysFrom(int first, int end, int weight, int depth, int odds) {
        StringBuilder s = new StringBuilder();
        for (int i = first; i < end; i++) {
            s.append(boy(i, weight, depth, odds));
        }
        return s.toString();
    }

    static String dream(String name, int tug, int lasts, int passes, int odds) {
        return "dream " + name + " tug " + tug + " lasts " + lasts + " passes " + passes + " odds " + odds + ";";
    }

    /** DREAMS da, db, .. of the same kind. */
    static String dreams(int n, int tug, int lasts, int passes, int odds) {
        StringBuilder s = new StringBuilder();
        for (int i = 0; i < n; i++) {
            s.append(dream("d" + (char) ('a' + i), tug, lasts, passes, odds));
        }
        return s.toString();
    }

    static String slack(int slack, int knot) {
        return "slack " + slack + " at " + knot + ";";
    }
}
