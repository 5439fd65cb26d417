/** Promises 20 to 25: later, pour, lead, bottle, tank, bottling. */
final class TanksTest {
    private static final Checks CHECKS = new Checks();

    public static void main(String[] args) {
        theClock();
        pouring();
        tooManyPints();
        leading();
        bottlings();
        fortyBottlings();
        CHECKS.end();
    }

    private static void theClock() {
        MilkTrain x = new MilkTrain();
        CHECKS.due("later(0)", x.later(0), 0);
        CHECKS.due("later(1001)", x.later(1001), -1);
        CHECKS.due("later(-1)", x.later(-1), -1);
        CHECKS.due("later(most)", x.later(Integer.MAX_VALUE), -1);
        for (int i = 1; i <= 99; i++) {
            CHECKS.due("later(1000)", x.later(1000), 1000 * i);
        }
        CHECKS.due("later(999)", x.later(999), 99999);
        CHECKS.due("later(2)", x.later(2), -1);
        CHECKS.due("about(0)", x.about(0), 99999);
        CHECKS.due("later(1)", x.later(1), 100000);
        CHECKS.due("later(1)", x.later(1), -1);
        CHECKS.due("later(0)", x.later(0), 100000);
    }

    private static void pouring() {
        MilkTrain x = Texts.withChurns(10, 20, 30);
        CHECKS.due("pour(0, 4)", x.pour(0, 4), -1);
        CHECKS.due("pour(0, -1)", x.pour(0, -1), -1);
        CHECKS.due("pour(3, 0)", x.pour(3, 0), -1);
        CHECKS.due("pour(-1, 0)", x.pour(-1, 0), -1);
        CHECKS.due("of(0, 4)", x.of(0, 4), -1);
        CHECKS.due("pour(0, 3)", x.pour(0, 3), 10);
        CHECKS.due("pour(1, 3)", x.pour(1, 3), 30);
        CHECKS.due("pour(1, 3) again", x.pour(1, 3), -1);
        CHECKS.due("pour(1, 2) again", x.pour(1, 2), -1);
        CHECKS.due("of(1, 4)", x.of(1, 4), 3);
        CHECKS.tank("poured", x, 3, 30, 3);
        CHECKS.tank("not poured", x, 2, 0, 0);
        CHECKS.due("tank(3, 2)", x.tank(3, 2), -1);
        CHECKS.due("tank(3, -1)", x.tank(3, -1), -1);
        CHECKS.due("tank(4, 0)", x.tank(4, 0), -1);
        CHECKS.due("tank(-1, 0)", x.tank(-1, 0), -1);
    }

    private static void tooManyPints() {
        MilkTrain x = Texts.withChurns(100, 100, 100, 100, 100, 100, 100, 100, 100, 100);
        for (int churn = 0; churn < 10; churn++) {
            CHECKS.due("pour(" + churn + ", 0)", x.pour(churn, 0), 100 * (churn + 1));
        }
        // Ten full churns just fill a tank, so no pour and no lead can overflow one.
        CHECKS.tank("full", x, 0, 1000, 1023);
        CHECKS.due("lead(0, 1, 1001)", x.lead(0, 1, 1001), -1);
        CHECKS.due("lead(0, 1, 1000)", x.lead(0, 1, 1000), 0);
        CHECKS.tank("led wholly", x, 0, 0, 0);
        CHECKS.tank("filled by leading", x, 1, 1000, 1023);
        CHECKS.due("bottle(1, 1000)", x.bottle(1, 1000), 0);
        CHECKS.tank("bottled", x, 1, 0, 0);
    }

    private static void leading() {
        MilkTrain x = Texts.withChurns(10, 20, 30);
        x.pour(0, 0);
        x.pour(1, 1);
        int[][] wrong = {{0, 0, 1}, {0, 1, 0}, {0, 1, -1}, {0, 1, 11}, {2, 1, 1}, {-1, 1, 1}, {4, 1, 1}, {0, -1, 1},
            {0, 4, 1}, {0, 1, Integer.MAX_VALUE}, {0, 1, Integer.MIN_VALUE}};
        for (int[] w : wrong) {
            CHECKS.due("lead" + java.util.Arrays.toString(w), x.lead(w[0], w[1], w[2]), -1);
        }
        CHECKS.tank("nothing led", x, 0, 10, 1);
        CHECKS.tank("nothing led", x, 1, 20, 2);
        CHECKS.due("lead(0, 1, 4)", x.lead(0, 1, 4), 6);
        CHECKS.tank("led", x, 0, 6, 1);
        CHECKS.tank("led", x, 1, 24, 3);
        x.pour(2, 0);
        CHECKS.tank("as they were then", x, 1, 24, 3);
        CHECKS.due("lead(1, 2, 24)", x.lead(1, 2, 24), 0);
        CHECKS.tank("empty", x, 1, 0, 0);
        CHECKS.tank("from the led one", x, 2, 24, 3);
        CHECKS.due("lead(0, 1, 1)", x.lead(0, 1, 1), 35);
        CHECKS.tank("anew since it was empty", x, 1, 1, 5);
    }

    private static void bottlings() {
        MilkTrain x = Texts.withChurns(10, 20);
        CHECKS.due("bottle of an empty tank", x.bottle(0, 1), -1);
        x.pour(0, 0);
        CHECKS.due("bottle(0, 0)", x.bottle(0, 0), -1);
        CHECKS.due("bottle(0, -1)", x.bottle(0, -1), -1);
        CHECKS.due("bottle(0, 11)", x.bottle(0, 11), -1);
        CHECKS.due("bottle(4, 1)", x.bottle(4, 1), -1);
        CHECKS.due("bottle(-1, 1)", x.bottle(-1, 1), -1);
        CHECKS.due("about(3)", x.about(3), 0);
        x.later(3);
        CHECKS.due("bottle(0, 4)", x.bottle(0, 4), 0);
        CHECKS.tank("less", x, 0, 6, 1);
        x.pour(1, 0);
        x.later(4);
        CHECKS.due("bottle(0, 26)", x.bottle(0, 26), 1);
        CHECKS.tank("all bottled", x, 0, 0, 0);
        int[][] want = {{4, 1, 3, -1}, {26, 3, 7, -1}};
        for (int k = 0; k < 2; k++) {
            for (int what = 0; what < 4; what++) {
                CHECKS.due("bottling(" + k + ", " + what + ")", x.bottling(k, what), want[k][what]);
            }
        }
        CHECKS.due("bottling(0, -1)", x.bottling(0, -1), -1);
        CHECKS.due("bottling(2, 0)", x.bottling(2, 0), -1);
        CHECKS.due("bottling(-1, 0)", x.bottling(-1, 0), -1);
    }

    private static void fortyBottlings() {
        MilkTrain x = Texts.withChurns(100);
        x.pour(0, 2);
        for (int k = 0; k < 40; k++) {
            CHECKS.due("bottle no. " + k, x.bottle(2, 1), k);
        }
        CHECKS.due("a 41st bottling", x.bottle(2, 1), -1);
        CHECKS.tank("nothing drawn", x, 2, 60, 1);
        CHECKS.due("about(3)", x.about(3), 40);
    }
}
