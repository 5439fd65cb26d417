/** The edges of DELAY and of promises 6 and 7: one method for each sentence that names one. */
final class TrainEdgesTest {
    private static final Checks CHECKS = new Checks();
    private static final String TWO = "train a carries 9:1 at 0,0 at 1439;train b carries 9:2 at 7,3 at 8,0 at 9;";

    public static void main(String[] args) {
        delaysZeroTo300();
        noDelayAtFirst();
        addsToAllItsMinutes();
        aStopBehind1439IsThereStill();
        trainsThatAre();
        whatsThatAre();
        stopsThatAre();
        delaysThatCantBe();
        CHECKS.end();
    }

    // "A DELAY (0 .. 300 ..)"
    private static void delaysZeroTo300() {
        MilkTrain x = Texts.office(TWO);
        int[] can = {300, 299, 1, 0};
        for (int minutes : can) {
            CHECKS.due("delay(0, " + minutes + ")", x.delay(0, minutes), true);
            CHECKS.due("train(0, 2)", x.train(0, 2), minutes);
        }
        x.delay(0, 150);
        int[] cannot = {-1, 301, Integer.MIN_VALUE, Integer.MAX_VALUE};
        for (int minutes : cannot) {
            CHECKS.due("delay(0, " + minutes + ")", x.delay(0, minutes), false);
            CHECKS.due("train(0, 2)", x.train(0, 2), 150);
        }
    }

    // "(.. 0 at first)"
    private static void noDelayAtFirst() {
        MilkTrain x = Texts.office(TWO);
        CHECKS.due("train(0, 2)", x.train(0, 2), 0);
        CHECKS.due("train(1, 2)", x.train(1, 2), 0);
        CHECKS.due("train(1, 20)", x.train(1, 20), 7);
    }

    // "A DELAY .. of a train adds to all its M"
    private static void addsToAllItsMinutes() {
        MilkTrain x = Texts.office(TWO);
        x.delay(1, 300);
        for (int k = 0; k < 3; k++) {
            CHECKS.due("train(1, 2" + k + ")", x.train(1, 20 + k), 307 + k);
        }
        CHECKS.due("the other train", x.train(0, 20), 0);
        x.delay(1, 1);
        CHECKS.due("the latest delay, not the sum", x.train(1, 20), 8);
    }

    // "(a stop behind minute 1439 is there still)"
    private static void aStopBehind1439IsThereStill() {
        MilkTrain x = Texts.office(TWO);
        x.churn(0, 1, 0, 10);
        for (int minutes = 0; minutes <= 300; minutes += 100) {
            x.delay(0, minutes);
            CHECKS.due("stops", x.train(0, 1), 2);
            CHECKS.due("station", x.train(0, 11), 0);
            CHECKS.due("minute", x.train(0, 21), 1439 + minutes);
            CHECKS.due("by it", x.by(0, 0), 6 * (1439 + minutes));
            CHECKS.due("the end of its way", x.way(0, 0), 1439 + minutes);
        }
    }

    // Promise 6: "NONE if there is none such", of the train
    private static void trainsThatAre() {
        MilkTrain none = new MilkTrain();
        CHECKS.due("train(0, 0) of none", none.train(0, 0), -1);
        CHECKS.due("train(-1, 0) of none", none.train(-1, 0), -1);
        MilkTrain x = Texts.office(TWO);
        CHECKS.due("train(1, 0)", x.train(1, 0), 9);
        for (int train : new int[] {-1, 2, 7, 8, Integer.MIN_VALUE, Integer.MAX_VALUE}) {
            for (int what : new int[] {0, 1, 2, 10, 20}) {
                CHECKS.due("train(" + train + ", " + what + ")", x.train(train, what), -1);
            }
        }
        MilkTrain full = Texts.office(Reading.trains(8));
        CHECKS.due("train(7, 1) of eight", full.train(7, 1), 2);
        CHECKS.due("train(8, 1) of eight", full.train(8, 1), -1);
    }

    // Promise 6: "NONE if there is none such", of what
    private static void whatsThatAre() {
        MilkTrain x = Texts.office(Reading.stops(8));
        for (int what = -5; what < 40; what++) {
            boolean is = what >= 0 && what <= 2 || what >= 10 && what <= 17 || what >= 20 && what <= 27;
            CHECKS.due("there is a what " + what, x.train(0, what) >= 0, is);
        }
        CHECKS.due("least", x.train(0, Integer.MIN_VALUE), -1);
        CHECKS.due("most", x.train(0, Integer.MAX_VALUE), -1);
    }

    // Promise 6: "of its k-th stop 10 + k: the station, 20 + k: the minute, with the DELAY"
    private static void stopsThatAre() {
        MilkTrain x = Texts.office(TWO);
        int[] want = {2, 3, 0, -1};
        for (int k = 0; k < want.length; k++) {
            CHECKS.due("train(1, 1" + k + ")", x.train(1, 10 + k), want[k]);
            CHECKS.due("train(1, 2" + k + ")", x.train(1, 20 + k), k < 3 ? 7 + k : -1);
        }
        x.delay(0, 300);
        CHECKS.due("no minute of a stop that is not", x.train(0, 22), -1);
        // The longer timetable ahead of this one has left nothing behind.
        Texts.put(x, Reading.stops(8));
        x.timetable();
        Texts.put(x, TWO);
        x.timetable();
        CHECKS.due("train(0, 12)", x.train(0, 12), -1);
        CHECKS.due("train(0, 22)", x.train(0, 22), -1);
    }

    // Promise 7: "false, doing nothing, if one can't be"
    private static void delaysThatCantBe() {
        CHECKS.due("delay(0, 0) of no train", new MilkTrain().delay(0, 0), false);
        MilkTrain x = Texts.office(TWO);
        x.delay(0, 5);
        x.delay(1, 6);
        for (int train : new int[] {-1, 2, 8, Integer.MIN_VALUE, Integer.MAX_VALUE}) {
            CHECKS.due("delay(" + train + ", 1)", x.delay(train, 1), false);
        }
        CHECKS.due("train(0, 2)", x.train(0, 2), 5);
        CHECKS.due("train(1, 2)", x.train(1, 2), 6);
        CHECKS.due("delay(1, 7)", x.delay(1, 7), true);
        CHECKS.due("train(1, 2)", x.train(1, 2), 7);
        CHECKS.due("delay(7, 300) of eight", Texts.office(Reading.trains(8)).delay(7, 300), true);
    }
}
