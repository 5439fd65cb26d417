/** The edges of FINDS, RECALLED and of promises 26 to 30: one method for each sentence that names one. */
final class FindEdgesTest {
    private static final Checks CHECKS = new Checks();

    public static void main(String[] args) {
        thirtyFinds();
        farmsZeroTo11();
        fromZeroTo100000();
        untoldLaterOrTheSameMinute();
        untoldAlready();
        madeNotAheadOfTheMinute();
        ofAFarmOfTheirs();
        toldAtThatMinuteOrBefore();
        notUntoldAtThatMinuteOrBefore();
        madeAtThatMinuteOrBefore();
        anyFindIsEnough();
        bottlingsThatAre();
        minutesOutsideTheClock();
        pintsOfAllBottlings();
        whatsOfAll();
        CHECKS.end();
    }

    /** An office with one bottling of 1 pint of farm 3, made at minute 10. */
    private static MilkTrain office() {
        MilkTrain x = new MilkTrain();
        x.churn(3, 1, 0, 100);
        x.pour(0, 0);
        x.later(10);
        x.bottle(0, 1);
        return x;
    }

    private static void recalls(String call, MilkTrain x, int k, boolean is) {
        CHECKS.due(call + ": recalled(0, " + k + ")", x.recalled(0, k), is ? 1 : 0);
        CHECKS.due(call + ": recall(" + k + ")", x.recall(k), is ? 1 : 0);
    }

    // "FINDS, 30 at most"; promise 26: "NONE, doing nothing, .. or there are 30"
    private static void thirtyFinds() {
        MilkTrain x = office();
        for (int i = 0; i < 30; i++) {
            CHECKS.due("untell(" + i + "), not yet", x.untell(i), false);
            CHECKS.due("find no. " + i, x.find(i % 3, i), i);
            CHECKS.due("about(4)", x.about(4), i + 1);
        }
        CHECKS.due("a 31st", x.find(3, 0), -1);
        CHECKS.due("about(4)", x.about(4), 30);
        recalls("not by the 31st", x, 10, false);
        CHECKS.due("untell(30)", x.untell(30), false);
        CHECKS.due("untell(29)", x.untell(29), true);
        CHECKS.due("about(4), one untold", x.about(4), 30);
        CHECKS.due("a 31st, one untold", x.find(3, 0), -1);
    }

    // Promise 26: "if it can't be", of the farm
    private static void farmsZeroTo11() {
        MilkTrain x = new MilkTrain();
        for (int farm : new int[] {-1, 12, Integer.MIN_VALUE, Integer.MAX_VALUE}) {
            CHECKS.due("find(" + farm + ", 0)", x.find(farm, 0), -1);
            CHECKS.due("about(4)", x.about(4), 0);
        }
        x.churn(0, 1, 0, 1);
        x.churn(11, 1, 0, 1);
        x.pour(0, 0);
        x.pour(1, 1);
        x.bottle(0, 1);
        x.bottle(1, 1);
        CHECKS.due("find(11, 0)", x.find(11, 0), 0);
        CHECKS.due("not of farm 0", x.recalled(0, 0), 0);
        CHECKS.due("of farm 11", x.recalled(1, 0), 1);
        CHECKS.due("find(0, 0)", x.find(0, 0), 1);
        CHECKS.due("of farm 0", x.recalled(0, 0), 1);
    }

    // Promise 26: "(from 0 .. 100000)"
    private static void fromZeroTo100000() {
        MilkTrain x = new MilkTrain();
        for (int from : new int[] {-1, 100001, Integer.MIN_VALUE, Integer.MAX_VALUE}) {
            CHECKS.due("find(3, " + from + ")", x.find(3, from), -1);
            CHECKS.due("about(4)", x.about(4), 0);
        }
        x.churn(3, 1, 0, 2);
        x.pour(0, 0);
        x.bottle(0, 1);
        for (int i = 0; i < 100; i++) {
            x.later(1000);
        }
        x.bottle(0, 1);
        CHECKS.due("find(3, 100000)", x.find(3, 100000), 0);
        CHECKS.due("made at 0, bad from 100000", x.recalled(0, 100000), 0);
        CHECKS.due("made at 100000, bad from then", x.recalled(1, 100000), 1);
        CHECKS.due("find(3, 0)", x.find(3, 0), 1);
        CHECKS.due("made at 0, bad from then", x.recalled(0, 100000), 1);
    }

    // "UNTOLD at a later minute, or the same"
    private static void untoldLaterOrTheSameMinute() {
        MilkTrain x = office();
        x.find(3, 0);
        recalls("told", x, 10, true);
        CHECKS.due("untell in the same minute", x.untell(0), true);
        recalls("untold", x, 10, false);
        recalls("untold, later", x, 11, false);
        x.find(3, 0);
        x.later(1);
        CHECKS.due("untell a minute later", x.untell(1), true);
        recalls("then", x, 10, true);
        recalls("now", x, 11, false);
    }

    // Promise 27: "false if it is so already, or there is none such"
    private static void untoldAlready() {
        MilkTrain x = office();
        CHECKS.due("untell(0) of none", x.untell(0), false);
        CHECKS.due("untell(-1) of none", x.untell(-1), false);
        x.find(3, 0);
        x.later(5);
        CHECKS.due("untell(0)", x.untell(0), true);
        CHECKS.due("untell(0) again", x.untell(0), false);
        x.later(5);
        CHECKS.due("untell(0) again, later", x.untell(0), false);
        recalls("untold at the first time", x, 14, true);
        recalls("untold at the first time", x, 15, false);
        recalls("untold at the first time", x, 20, false);
        for (int find : new int[] {-1, 1, 29, 30, Integer.MIN_VALUE, Integer.MAX_VALUE}) {
            CHECKS.due("untell(" + find + ")", x.untell(find), false);
        }
        MilkTrain zero = new MilkTrain();
        zero.find(0, 0);
        CHECKS.due("untell at minute 0", zero.untell(0), true);
        CHECKS.due("untell at minute 0 again", zero.untell(0), false);
    }

    // "those made at a minute not ahead of that from which a FARM of theirs is bad"
    private static void madeNotAheadOfTheMinute() {
        for (int from = 9; from <= 11; from++) {
            MilkTrain x = office();
            x.find(3, from);
            recalls("bad from " + from, x, 10, from <= 10);
            recalls("bad from " + from, x, 100, from <= 10);
        }
    }

    // "a FARM of theirs"
    private static void ofAFarmOfTheirs() {
        for (int farm = 0; farm < 12; farm++) {
            MilkTrain x = office();
            x.find(farm, 0);
            recalls("farm " + farm, x, 10, farm == 3);
        }
        MilkTrain x = new MilkTrain();
        x.churn(3, 1, 0, 10);
        x.churn(4, 1, 0, 10);
        x.pour(0, 0);
        x.pour(1, 1);
        x.lead(1, 0, 1);
        x.bottle(0, 1);
        x.find(4, 0);
        recalls("by a tank led over", x, 0, true);
    }

    // "by a FIND TOLD at k or before"
    private static void toldAtThatMinuteOrBefore() {
        MilkTrain x = office();
        x.later(10);
        x.find(3, 0);
        recalls("told at 20", x, 19, false);
        recalls("told at 20", x, 20, true);
        recalls("told at 20", x, 21, true);
    }

    // "and not UNTOLD at k or before"
    private static void notUntoldAtThatMinuteOrBefore() {
        MilkTrain x = office();
        x.find(3, 0);
        x.later(10);
        x.untell(0);
        recalls("untold at 20", x, 19, true);
        recalls("untold at 20", x, 20, false);
        recalls("untold at 20", x, 21, false);
    }

    // "that were made at k or before"
    private static void madeAtThatMinuteOrBefore() {
        MilkTrain x = new MilkTrain();
        x.churn(3, 1, 0, 100);
        x.pour(0, 0);
        x.find(3, 0);
        x.later(10);
        x.bottle(0, 1);
        recalls("made at 10", x, 9, false);
        recalls("made at 10", x, 10, true);
        recalls("made at 10", x, 11, true);
    }

    // "a FARM of theirs is bad, by a FIND": of several, one is enough, and none counts twice
    private static void anyFindIsEnough() {
        MilkTrain x = office();
        x.find(3, 11);
        x.find(4, 0);
        x.find(3, 0);
        x.find(3, 1);
        recalls("by the last two", x, 10, true);
        x.untell(2);
        recalls("by the last", x, 10, true);
        x.untell(3);
        recalls("by none", x, 10, false);
        CHECKS.due("a find behind untold ones", x.find(3, 10), 4);
        recalls("told anew", x, 10, true);
    }

    // Promise 28: "else 0; NONE if there is none such"
    private static void bottlingsThatAre() {
        CHECKS.due("recalled(0, 0) of none", new MilkTrain().recalled(0, 0), -1);
        MilkTrain x = office();
        recalls("no find", x, 10, false);
        x.find(3, 0);
        for (int k : new int[] {-1, 1, 39, 40, Integer.MIN_VALUE, Integer.MAX_VALUE}) {
            CHECKS.due("recalled(" + k + ", 10)", x.recalled(k, 10), -1);
        }
        recalls("the one that is", x, 10, true);
    }

    // "as known at a minute k": any number is one
    private static void minutesOutsideTheClock() {
        MilkTrain x = new MilkTrain();
        x.churn(3, 1, 0, 1);
        x.pour(0, 0);
        x.bottle(0, 1);
        x.find(3, 0);
        recalls("ahead of all", x, -1, false);
        recalls("ahead of all", x, Integer.MIN_VALUE, false);
        recalls("at the first minute", x, 0, true);
        recalls("behind the clock", x, 100001, true);
        recalls("behind the clock", x, Integer.MAX_VALUE, true);
        CHECKS.due("recall(0) of nothing", new MilkTrain().recall(0), 0);
    }

    // Promise 29: as many as there can be
    private static void pintsOfAllBottlings() {
        MilkTrain x = new MilkTrain();
        for (int churn = 0; churn < 10; churn++) {
            x.churn(churn, 1, 0, 100);
            x.pour(churn, 0);
        }
        for (int k = 0; k < 40; k++) {
            x.bottle(0, 25);
        }
        CHECKS.due("no find", x.recall(0), 0);
        x.find(9, 0);
        CHECKS.due("a find of one farm", x.recall(0), 1000);
        for (int i = 1; i < 30; i++) {
            x.find(i % 10, 0);
        }
        CHECKS.due("thirty finds", x.recall(0), 1000);
        CHECKS.due("the last bottling", x.recalled(39, 0), 1);
    }

    // Promise 30: "NONE for another what"
    private static void whatsOfAll() {
        MilkTrain x = new MilkTrain();
        int[] first = {0, 0, 0, 0, 0, 0, 1000};
        for (int what = -3; what < 12; what++) {
            boolean is = what >= 0 && what < first.length;
            CHECKS.due("new about(" + what + ")", x.about(what), is ? first[what] : -1);
        }
        CHECKS.due("about(least)", x.about(Integer.MIN_VALUE), -1);
        CHECKS.due("about(most)", x.about(Integer.MAX_VALUE), -1);
    }
}
