/** Promises 26 to 29: find, untell, recalled, recall. */
final class FindsTest {
    private static final Checks CHECKS = new Checks();

    public static void main(String[] args) {
        findsAndUntelling();
        asKnownThen();
        ofFarms();
        severalFinds();
        CHECKS.end();
    }

    private static void findsAndUntelling() {
        MilkTrain x = new MilkTrain();
        CHECKS.due("find(-1, 0)", x.find(-1, 0), -1);
        CHECKS.due("find(12, 0)", x.find(12, 0), -1);
        CHECKS.due("find(0, -1)", x.find(0, -1), -1);
        CHECKS.due("find(0, 100001)", x.find(0, 100001), -1);
        CHECKS.due("about(4)", x.about(4), 0);
        CHECKS.due("untell(0) of none", x.untell(0), false);
        CHECKS.due("find(11, 100000)", x.find(11, 100000), 0);
        for (int i = 1; i < 30; i++) {
            CHECKS.due("find no. " + i, x.find(0, 0), i);
        }
        CHECKS.due("a 31st find", x.find(0, 0), -1);
        CHECKS.due("about(4)", x.about(4), 30);
        CHECKS.due("untell(29)", x.untell(29), true);
        CHECKS.due("untell(29) again", x.untell(29), false);
        CHECKS.due("untell(30)", x.untell(30), false);
        CHECKS.due("untell(-1)", x.untell(-1), false);
        CHECKS.due("a find after untelling", x.find(0, 0), -1);
    }

    /** Bottlings at minutes 0, 10 and 20 of farms 0, 0 and 0, 1. */
    private static MilkTrain office() {
        MilkTrain x = new MilkTrain();
        x.churn(0, 1, 0, 100);
        x.churn(1, 1, 0, 100);
        x.pour(0, 0);
        x.bottle(0, 1);
        x.later(10);
        x.bottle(0, 2);
        x.later(10);
        x.pour(1, 0);
        x.bottle(0, 4);
        return x;
    }

    private static void recalls(String call, MilkTrain x, int k, int pints) {
        CHECKS.due(call + ": recall(" + k + ")", x.recall(k), pints);
        for (int bottling = 0; bottling < 3; bottling++) {
            CHECKS.due(call + ": recalled(" + bottling + ", " + k + ")", x.recalled(bottling, k), pints >> bottling & 1);
        }
    }

    private static void asKnownThen() {
        MilkTrain x = office();
        recalls("no find", x, 100, 0);
        CHECKS.due("recalled(3, 0)", x.recalled(3, 0), -1);
        CHECKS.due("recalled(-1, 0)", x.recalled(-1, 0), -1);
        x.later(10);
        x.find(0, 10);
        recalls("told at 30", x, 29, 0);
        recalls("told at 30", x, 30, 6);
        recalls("told at 30", x, Integer.MAX_VALUE, 6);
        recalls("told at 30", x, -1, 0);
        recalls("told at 30", x, Integer.MIN_VALUE, 0);
        x.later(10);
        x.untell(0);
        recalls("untold at 40", x, 39, 6);
        recalls("untold at 40", x, 40, 0);
        x.find(0, 11);
        recalls("told anew at 40", x, 40, 4);
        recalls("told anew at 40", x, 39, 6);
        x.untell(1);
        recalls("untold at its own minute", x, 40, 0);
        recalls("untold at its own minute", x, 39, 6);
    }

    private static void ofFarms() {
        MilkTrain x = office();
        x.find(1, 0);
        recalls("farm 1", x, 20, 4);
        x.find(2, 0);
        recalls("farm 2", x, 20, 4);
        x.find(0, 21);
        recalls("farm 0 behind all", x, 100, 4);
        x.find(0, 20);
        recalls("farm 0 from 20", x, 100, 4);
        x.find(0, 0);
        recalls("farm 0 from 0", x, 100, 7);
    }

    private static void severalFinds() {
        MilkTrain x = new MilkTrain();
        x.churn(0, 1, 0, 100);
        x.pour(0, 0);
        x.find(0, 0);
        x.bottle(0, 1);
        x.later(5);
        x.bottle(0, 2);
        CHECKS.due("made behind the find: recall(0)", x.recall(0), 1);
        CHECKS.due("made behind the find: recall(4)", x.recall(4), 1);
        CHECKS.due("made behind the find: recall(5)", x.recall(5), 3);
        x.find(0, 5);
        x.untell(0);
        CHECKS.due("one of two untold: recall(5)", x.recall(5), 2);
        CHECKS.due("one of two untold: recall(4)", x.recall(4), 1);
    }
}
