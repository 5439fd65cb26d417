/** Promises 6 and 7: train, delay. */
final class TrainsTest {
    private static final Checks CHECKS = new Checks();

    public static void main(String[] args) {
        ofTrains();
        delays();
        CHECKS.end();
    }

    private static void ofTrains() {
        MilkTrain x = Texts.office(
            "train a carries 99:9 at 0,8 at 1,7 at 2,6 at 3,5 at 4,4 at 5,3 at 6,0 at 1439;train b carries 0:1 at 7,2 at 9;");
        CHECKS.due("train(0, 0)", x.train(0, 0), 99);
        CHECKS.due("train(0, 1)", x.train(0, 1), 8);
        CHECKS.due("train(0, 2)", x.train(0, 2), 0);
        CHECKS.due("train(1, 0)", x.train(1, 0), 0);
        CHECKS.due("train(1, 1)", x.train(1, 1), 2);
        for (int k = 0; k < 7; k++) {
            CHECKS.due("station of stop " + k, x.train(0, 10 + k), 9 - k);
            CHECKS.due("minute of stop " + k, x.train(0, 20 + k), k);
        }
        CHECKS.due("train(0, 17)", x.train(0, 17), 0);
        CHECKS.due("train(0, 27)", x.train(0, 27), 1439);
        CHECKS.due("train(1, 11)", x.train(1, 11), 2);
        CHECKS.due("train(1, 21)", x.train(1, 21), 9);
        int[] none = {-1, 3, 9, 12, 17, 18, 19, 22, 27, 28, 30, Integer.MIN_VALUE, Integer.MAX_VALUE};
        for (int what : none) {
            CHECKS.due("train(1, " + what + ")", x.train(1, what), -1);
        }
        CHECKS.due("train(0, 18)", x.train(0, 18), -1);
        CHECKS.due("train(0, 28)", x.train(0, 28), -1);
        CHECKS.due("train(2, 0)", x.train(2, 0), -1);
        CHECKS.due("train(-1, 0)", x.train(-1, 0), -1);
        CHECKS.due("train(most, 0)", x.train(Integer.MAX_VALUE, 0), -1);
    }

    private static void delays() {
        MilkTrain x = Texts.office("train a carries 9:1 at 0,0 at 1439;train b carries 9:1 at 7,2 at 9;");
        CHECKS.due("delay(0, 300)", x.delay(0, 300), true);
        CHECKS.due("train(0, 2)", x.train(0, 2), 300);
        CHECKS.due("train(0, 20)", x.train(0, 20), 300);
        CHECKS.due("train(0, 21)", x.train(0, 21), 1739);
        CHECKS.due("train(1, 2)", x.train(1, 2), 0);
        CHECKS.due("train(1, 20)", x.train(1, 20), 7);
        CHECKS.due("delay(0, 301)", x.delay(0, 301), false);
        CHECKS.due("delay(0, -1)", x.delay(0, -1), false);
        CHECKS.due("delay(2, 0)", x.delay(2, 0), false);
        CHECKS.due("delay(-1, 0)", x.delay(-1, 0), false);
        CHECKS.due("train(0, 2) as it was", x.train(0, 2), 300);
        CHECKS.due("delay(0, 5)", x.delay(0, 5), true);
        CHECKS.due("train(0, 20) by the latest delay", x.train(0, 20), 5);
        CHECKS.due("delay(0, 0)", x.delay(0, 0), true);
        CHECKS.due("train(0, 21) in time", x.train(0, 21), 1439);
    }
}
