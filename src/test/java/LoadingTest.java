import java.util.Random;

/** Promises 17 to 19: lost, souring, load. */
final class LoadingTest {
    private static final Checks CHECKS = new Checks();

    public static void main(String[] args) {
        leastLost();
        leastSouring();
        firstByTrains();
        sourAtTheCity();
        noChangesInLoading();
        everyActRenews();
        tenChurnsEightTrains();
        againstAllLoadings();
        CHECKS.end();
    }

    private static void best(String call, MilkTrain x, int lost, int souring, int... trains) {
        CHECKS.best(call, x, lost, souring, trains);
        CHECKS.due(call + ": load behind all", x.load(trains.length), -1);
        CHECKS.due(call + ": load(-1)", x.load(-1), -1);
    }

    private static void leastLost() {
        MilkTrain x = Texts.office("train a carries 1:1 at 10,0 at 20;train b carries 0:1 at 10,0 at 20;");
        best("no churns", x, 0, 0);
        x.churn(0, 1, 0, 10);
        best("one churn", x, 0, 120, 0);
        x.churn(0, 1, 0, 11);
        best("the larger rides", x, 10, 120, -1, 0);
        x.churn(0, 2, 0, 50);
        best("one without a train", x, 60, 120, -1, 0, -1);
    }

    private static void leastSouring() {
        MilkTrain x = Texts.office("train a carries 1:1 at 10,0 at 30;train b carries 1:1 at 10,0 at 20;");
        x.churn(0, 1, 0, 10);
        best("the faster train", x, 0, 120, 1);
        x.churn(0, 1, 10, 10);
        best("both, the first by trains", x, 0, 240, 0, 1);
        x.churn(0, 1, 5, 10);
        best("of like pints the least souring", x, 10, 60 + 150, -1, 0, 1);
    }

    private static void firstByTrains() {
        MilkTrain x = Texts.office("train a carries 2:1 at 10,0 at 20;train b carries 2:1 at 10,0 at 20;");
        for (int churn = 0; churn < 5; churn++) {
            x.churn(0, 1, 0, 10);
        }
        best("all alike", x, 10, 480, 0, 0, 1, 1, -1);
        MilkTrain y = Texts.office("train a carries 1:1 at 10,0 at 20;train b carries 1:1 at 10,2 at 11,0 at 20;");
        y.churn(0, 1, 10, 10);
        y.churn(0, 1, 10, 10);
        y.churn(0, 2, 1, 10);
        best("the first ones ahead", y, 10, 120, 0, 1, -1);
    }

    private static void sourAtTheCity() {
        MilkTrain x = Texts.office("train a carries 9:1 at 10,0 at 20;");
        x.churn(0, 1, 0, 10);
        x.limit(121);
        best("below the limit", x, 0, 120, 0);
        x.limit(120);
        best("at the limit it is left", x, 10, 0, -1);
        x.churn(0, 1, 1, 7);
        best("another below it", x, 10, 114, -1, 0);
    }

    private static void noChangesInLoading() {
        MilkTrain x = Texts.office(Texts.THREE);
        x.limit(100000);
        x.churn(0, 3, 0, 10);
        CHECKS.due("way with a change", x.way(0, 1), 2);
        best("without a change", x, 0, 1140, 1);
    }

    private static void everyActRenews() {
        MilkTrain x = Texts.office("train a carries 9:1 at 10,0 at 20;");
        x.churn(0, 1, 0, 10);
        best("at first", x, 0, 120, 0);
        x.cooler(1, true);
        best("cooled", x, 0, 70, 0);
        x.warmth(0, 24);
        best("warm", x, 0, 250, 0);
        x.delay(0, 10);
        best("late", x, 0, 300, 0);
        x.limit(300);
        best("sour", x, 10, 0, -1);
        x.churn(0, 1, 20, 3);
        best("one more", x, 10, 200, -1, 0);
        Texts.put(x, "train b carries 0:1 at 50,0 at 51;train a carries 1:1 at 20,0 at 21;");
        x.timetable();
        best("other trains", x, 3, 120, 1, -1);
        x.pour(0, 0);
        best("poured", x, 3, 120, 1, -1);
    }

    private static void tenChurnsEightTrains() {
        StringBuilder text = new StringBuilder();
        for (int t = 0; t < 8; t++) {
            text.append("train ").append((char) ('a' + t)).append(" carries 1:1 at ").append(500 - t)
                .append(",0 at 1439;");
        }
        MilkTrain x = Texts.office(text.toString());
        x.warmth(0, 40);
        x.limit(100000);
        x.cooler(1, true);
        for (int churn = 0; churn < 10; churn++) {
            x.churn(0, 1, 0, 100);
        }
        for (int t = 0; t < 8; t++) {
            x.delay(t, 300);
        }
        int souring = 0;
        for (int t = 0; t < 8; t++) {
            souring += (800 - t) * 9 + (939 + t) * 36;
        }
        best("the longest night", x, 200, souring, 0, 1, 2, 3, 4, 5, 6, 7, -1, -1);
    }

    private static void againstAllLoadings() {
        Random random = new Random(17);
        for (int round = 0; round < 3000; round++) {
            boolean wide = round % 2 == 0;
            Night night = new Night(random, wide ? 8 : 3, wide ? 5 : 8, round % 3 == 0 ? 30 : 500);
            int[] want = night.loading();
            int[] trains = new int[night.churns];
            for (int c = 0; c < night.churns; c++) {
                trains[c] = want[c + 2] == night.trains ? -1 : want[c + 2];
            }
            best("night " + round, night.office, want[0], want[1], trains);
        }
    }
}
