/** Promises 12, 13 and 30: churn, of, about. */
final class ChurnsTest {
    private static final Checks CHECKS = new Checks();

    public static void main(String[] args) {
        wrongChurns();
        tenChurns();
        about();
        CHECKS.end();
    }

    private static void wrongChurns() {
        MilkTrain x = new MilkTrain();
        int[][] wrong = {{-1, 1, 0, 1}, {12, 1, 0, 1}, {0, 0, 0, 1}, {0, 10, 0, 1}, {0, -1, 0, 1}, {0, 1, -1, 1},
            {0, 1, 1440, 1}, {0, 1, 0, 0}, {0, 1, 0, 101}, {0, 1, 0, -1}, {Integer.MAX_VALUE, 1, 0, 1}};
        for (int[] w : wrong) {
            CHECKS.due("churn" + java.util.Arrays.toString(w), x.churn(w[0], w[1], w[2], w[3]), -1);
        }
        CHECKS.due("about(2)", x.about(2), 0);
    }

    private static void tenChurns() {
        MilkTrain x = new MilkTrain();
        CHECKS.due("churn(11, 9, 1439, 100)", x.churn(11, 9, 1439, 100), 0);
        CHECKS.due("churn(0, 1, 0, 1)", x.churn(0, 1, 0, 1), 1);
        for (int i = 2; i < 10; i++) {
            CHECKS.due("churn no. " + i, x.churn(i, i, 10 * i, 3 * i), i);
        }
        CHECKS.due("an 11th churn", x.churn(0, 1, 0, 1), -1);
        CHECKS.due("about(2)", x.about(2), 10);
        int[] first = {11, 9, 1439, 100, -1, -1};
        int[] third = {2, 2, 20, 6, -1, -1};
        for (int what = 0; what < first.length; what++) {
            CHECKS.due("of(0, " + what + ")", x.of(0, what), first[what]);
            CHECKS.due("of(2, " + what + ")", x.of(2, what), third[what]);
        }
        CHECKS.due("of(0, -1)", x.of(0, -1), -1);
        CHECKS.due("of(10, 0)", x.of(10, 0), -1);
        CHECKS.due("of(-1, 0)", x.of(-1, 0), -1);
        x.pour(2, 3);
        CHECKS.due("of(2, 4)", x.of(2, 4), 3);
        CHECKS.due("of(1, 4)", x.of(1, 4), -1);
    }

    private static void about() {
        MilkTrain x = Texts.office(Texts.THREE);
        x.feed(0, 0, 0, 0, 0);
        x.churn(0, 1, 0, 10);
        x.churn(0, 1, 0, 10);
        x.pour(0, 0);
        for (int i = 0; i < 4; i++) {
            x.bottle(0, 1);
        }
        for (int i = 0; i < 5; i++) {
            x.find(0, 0);
        }
        x.later(9);
        x.limit(77);
        int[] want = {9, 3, 2, 4, 5, 20, 77, -1};
        for (int what = 0; what < want.length; what++) {
            CHECKS.due("about(" + what + ")", x.about(what), want[what]);
        }
        CHECKS.due("about(-1)", x.about(-1), -1);
        CHECKS.due("about(most)", x.about(Integer.MAX_VALUE), -1);
    }
}
