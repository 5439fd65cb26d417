/** Promises 8 to 11: warmth, sours, cooler, limit. */
final class WarmthTest {
    private static final Checks CHECKS = new Checks();

    public static void main(String[] args) {
        toldAndNot();
        wrongWarmth();
        minutesAndStations();
        coolers();
        limits();
        CHECKS.end();
    }

    private static void hour(MilkTrain x, int hour, int souring) {
        CHECKS.due("sours in hour " + hour, x.sours(60 * hour, -1), souring);
        if (hour < 28) {
            CHECKS.due("sours at the end of hour " + hour, x.sours(60 * hour + 59, -1), souring);
        }
    }

    private static void toldAndNot() {
        MilkTrain x = new MilkTrain();
        for (int hour = 0; hour < 29; hour++) {
            hour(x, hour, 6);
        }
        CHECKS.due("warmth(5, 11)", x.warmth(5, 11), true);
        hour(x, 0, 7);
        hour(x, 5, 7);
        hour(x, 23, 7);
        hour(x, 28, 7);
        CHECKS.due("warmth(9, 20)", x.warmth(9, 20), true);
        hour(x, 4, 7);
        for (int hour = 6; hour < 9; hour++) {
            hour(x, hour, 11);
        }
        hour(x, 10, 16);
        x.warmth(7, 40);
        hour(x, 6, 21);
        hour(x, 7, 36);
        hour(x, 8, 26);
        CHECKS.due("warmth(7, NONE)", x.warmth(7, MilkTrain.NONE), true);
        hour(x, 7, 11);
        x.warmth(23, 0);
        hour(x, 22, 6);
        hour(x, 23, 0);
        hour(x, 24, 0);
        x.warmth(23, 40);
        hour(x, 24, 36);
        hour(x, 28, 36);
        x.warmth(0, 4);
        hour(x, 0, 0);
        x.warmth(0, 5);
        hour(x, 0, 1);
        for (int told : new int[] {5, 9, 23, 0}) {
            x.warmth(told, -1);
        }
        hour(x, 12, 6);
    }

    private static void wrongWarmth() {
        MilkTrain x = new MilkTrain();
        x.warmth(23, 30);
        CHECKS.due("warmth(24, 1)", x.warmth(24, 1), false);
        CHECKS.due("warmth(-1, 1)", x.warmth(-1, 1), false);
        CHECKS.due("warmth(23, 41)", x.warmth(23, 41), false);
        CHECKS.due("warmth(23, -2)", x.warmth(23, -2), false);
        CHECKS.due("warmth(24, NONE)", x.warmth(24, -1), false);
        CHECKS.due("warmth(most, 1)", x.warmth(Integer.MAX_VALUE, 1), false);
        hour(x, 23, 26);
    }

    private static void minutesAndStations() {
        MilkTrain x = new MilkTrain();
        CHECKS.due("sours(1739, 9)", x.sours(1739, 9), 6);
        CHECKS.due("sours(0, 0)", x.sours(0, 0), 6);
        CHECKS.due("sours(1740, 0)", x.sours(1740, 0), -1);
        CHECKS.due("sours(-1, 0)", x.sours(-1, 0), -1);
        CHECKS.due("sours(0, 10)", x.sours(0, 10), -1);
        CHECKS.due("sours(0, -2)", x.sours(0, -2), -1);
        CHECKS.due("sours(least, most)", x.sours(Integer.MIN_VALUE, Integer.MAX_VALUE), -1);
    }

    private static void coolers() {
        MilkTrain x = new MilkTrain();
        x.warmth(0, 15);
        CHECKS.due("cooler(0, true)", x.cooler(0, true), true);
        CHECKS.due("cooler(9, true)", x.cooler(9, true), true);
        CHECKS.due("cooler(10, true)", x.cooler(10, true), false);
        CHECKS.due("cooler(-1, true)", x.cooler(-1, true), false);
        CHECKS.due("sours(0, 0)", x.sours(0, 0), 2);
        CHECKS.due("sours(0, 9)", x.sours(0, 9), 2);
        CHECKS.due("sours(0, 8)", x.sours(0, 8), 11);
        CHECKS.due("sours(0, NONE)", x.sours(0, -1), 11);
        CHECKS.due("cooler(9, true) again", x.cooler(9, true), true);
        CHECKS.due("cooler(9, false)", x.cooler(9, false), true);
        CHECKS.due("sours(0, 9) without", x.sours(0, 9), 11);
        x.warmth(0, 7);
        CHECKS.due("a fourth of 3, cut", x.sours(0, 0), 0);
    }

    private static void limits() {
        MilkTrain x = new MilkTrain();
        CHECKS.due("limit(0)", x.limit(0), false);
        CHECKS.due("limit(-5)", x.limit(-5), false);
        CHECKS.due("limit(100001)", x.limit(100001), false);
        CHECKS.due("about(6)", x.about(6), 1000);
        CHECKS.due("limit(100000)", x.limit(100000), true);
        CHECKS.due("about(6)", x.about(6), 100000);
        CHECKS.due("limit(1)", x.limit(1), true);
        CHECKS.due("about(6)", x.about(6), 1);
    }
}
