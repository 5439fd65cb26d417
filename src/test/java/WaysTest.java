import java.util.Random;

/** Promises 14 to 16: alone, way, by. */
final class WaysTest {
    private static final Checks CHECKS = new Checks();

    public static void main(String[] args) {
        oneTrain();
        noWay();
        likeWays();
        changes();
        coolersOnTheWay();
        withDelays();
        againstAllWays();
        CHECKS.end();
    }

    private static void oneTrain() {
        MilkTrain x = Texts.office("train a carries 0:1 at 60,2 at 100,0 at 130,3 at 140;");
        x.churn(0, 1, 60, 1);
        x.churn(0, 1, 61, 1);
        x.churn(0, 2, 0, 1);
        x.churn(0, 3, 0, 1);
        CHECKS.way("ready at the very minute", x, 0, 420, 130, 1);
        CHECKS.way("ready a minute late", x, 1, -1, -1, -1);
        CHECKS.way("waiting", x, 2, 780, 130, 1);
        CHECKS.way("behind the city", x, 3, -1, -1, -1);
        int[] by = {420, -1, 780, -1};
        for (int churn = 0; churn < 4; churn++) {
            CHECKS.due("by(" + churn + ", 0)", x.by(churn, 0), by[churn]);
        }
        CHECKS.due("by(0, 1)", x.by(0, 1), -1);
        CHECKS.due("by(0, -1)", x.by(0, -1), -1);
        CHECKS.due("by(4, 0)", x.by(4, 0), -1);
        CHECKS.due("by(-1, 0)", x.by(-1, 0), -1);
        CHECKS.due("alone(4)", x.alone(4), -1);
        CHECKS.due("alone(-1)", x.alone(-1), -1);
        CHECKS.due("way(4, 0)", x.way(4, 0), -1);
        CHECKS.due("way(0, 2)", x.way(0, 2), -1);
        CHECKS.due("way(0, -1)", x.way(0, -1), -1);
    }

    private static void noWay() {
        MilkTrain x = new MilkTrain();
        x.churn(0, 1, 0, 1);
        CHECKS.way("without trains", x, 0, -1, -1, -1);
        CHECKS.due("by(0, 0)", x.by(0, 0), -1);
        Texts.put(x, "train a carries 9:1 at 0,2 at 50;train b carries 9:2 at 49,0 at 60;");
        x.timetable();
        CHECKS.way("a change missed by a minute", x, 0, -1, -1, -1);
        x.delay(1, 1);
        CHECKS.way("a change in the very minute", x, 0, 366, 61, 2);
    }

    private static void likeWays() {
        MilkTrain x = Texts.office("train a carries 9:1 at 10,0 at 90;train b carries 9:1 at 10,2 at 20,0 at 80;"
            + "train c carries 9:2 at 20,0 at 80;train d carries 9:1 at 5,2 at 20,0 at 81;");
        for (int hour = 0; hour < 2; hour++) {
            x.warmth(hour, 4);
        }
        x.churn(0, 1, 0, 1);
        CHECKS.way("all alike", x, 0, 0, 80, 1);
        x.churn(0, 1, 6, 1);
        Texts.put(x, "train a carries 9:1 at 10,0 at 90;train b carries 9:1 at 10,2 at 20;train c carries 9:2 at 20,0 at 80;");
        x.timetable();
        CHECKS.way("the earlier end ahead of fewer trains", x, 1, 0, 80, 2);
        x.warmth(1, 5);
        CHECKS.way("least souring ahead of all", x, 1, 20, 80, 2);
    }

    private static void changes() {
        MilkTrain x = Texts.office("train a carries 9:0 at 40,4 at 50;train b carries 9:3 at 30,0 at 41;"
            + "train c carries 9:2 at 20,3 at 30;train d carries 9:1 at 10,2 at 20;train e carries 9:4 at 50,0 at 60;");
        x.churn(0, 1, 10, 1);
        CHECKS.way("three trains, told backwards", x, 0, 186, 41, 3);
        CHECKS.due("by(0, 3)", x.by(0, 3), -1);
        x.warmth(0, 4);
        x.warmth(1, 4);
        CHECKS.way("not through the city", x, 0, 0, 41, 3);
        MilkTrain chain = Texts.office("train a carries 9:1 at 0,2 at 1;train b carries 9:2 at 1,3 at 2;"
            + "train c carries 9:3 at 2,4 at 3;train d carries 9:4 at 3,5 at 4;train e carries 9:5 at 4,6 at 5;"
            + "train f carries 9:6 at 5,7 at 6;train g carries 9:7 at 6,8 at 7;train h carries 9:8 at 7,0 at 8;");
        chain.churn(0, 1, 0, 1);
        CHECKS.way("eight trains", chain, 0, 48, 8, 8);
    }

    private static void coolersOnTheWay() {
        MilkTrain x = Texts.office("train a carries 9:1 at 0,2 at 10,0 at 60;train b carries 9:2 at 50,0 at 61;");
        x.warmth(0, 24);
        x.churn(0, 1, 0, 1);
        CHECKS.way("no cooler", x, 0, 1200, 60, 1);
        x.cooler(2, true);
        CHECKS.way("a cooler where it changes", x, 0, 200 + 40 * 5 + 220, 61, 2);
        x.cooler(0, true);
        CHECKS.way("a cooler at the city", x, 0, 620, 61, 2);
        x.cooler(2, false);
        x.cooler(1, true);
        x.churn(0, 1, 0, 1);
        CHECKS.way("no wait at the cooler", x, 1, 1200, 60, 1);
    }

    private static void withDelays() {
        MilkTrain x = Texts.office("train a carries 9:1 at 1000,0 at 1439;");
        x.warmth(23, 14);
        x.churn(0, 1, 1439, 1);
        CHECKS.way("too late", x, 0, -1, -1, -1);
        x.delay(0, 300);
        CHECKS.way("still too late", x, 0, -1, -1, -1);
        x.churn(0, 1, 1300, 1);
        CHECKS.way("by the delay", x, 1, 4390, 1739, 1);
        CHECKS.due("by, by the delay", x.by(1, 0), 4390);
    }

    private static void againstAllWays() {
        Random random = new Random(14);
        for (int round = 0; round < 1500; round++) {
            Night night = new Night(random, 6, 5, round % 3 == 0 ? 40 : round % 3 == 1 ? 300 : 1440);
            for (int c = 0; c < night.churns; c++) {
                int[] want = night.alone(c);
                String call = "night " + round + ", churn " + c;
                CHECKS.way(call, night.office, c, want == null ? -1 : want[0], want == null ? -1 : want[1],
                    want == null ? -1 : want[2]);
                for (int t = 0; t < night.trains; t++) {
                    CHECKS.due(call + ": by " + t, night.office.by(c, t), night.by(c, t));
                }
            }
        }
    }
}
