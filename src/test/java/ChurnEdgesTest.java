/** The edges of CHURNS, ALONE and of promises 12 to 16: one method for each sentence that names one. */
final class ChurnEdgesTest {
    private static final Checks CHECKS = new Checks();

    public static void main(String[] args) {
        tenAtMost();
        farmsZeroTo11();
        stationsOneToNine();
        readyZeroTo1439();
        pintsOneTo100();
        whatsOfAChurn();
        tankOfAChurn();
        soursFromReadyOn();
        boardsAtReadyOrLater();
        leavesAtALaterStop();
        boardsAnotherThenOrLater();
        endsAtTheFirstStopAtTheCity();
        asIfNoOtherRode();
        theLeastSouring();
        theEarliestEnd();
        theFewestTrains();
        noneWithoutAWay();
        whatsOfAWay();
        byOneTrain();
        eightTrainsOfEightStops();
        CHECKS.end();
    }

    private static void noWay(String call, MilkTrain x, int churn) {
        CHECKS.way(call, x, churn, -1, -1, -1);
    }

    // "CHURNS, 10 at most"; promise 12: "its number; NONE, doing nothing, .. or there are 10"
    private static void tenAtMost() {
        MilkTrain x = new MilkTrain();
        for (int i = 0; i < 10; i++) {
            CHECKS.due("churn no. " + i, x.churn(i, 1, i, 1 + i), i);
            CHECKS.due("about(2)", x.about(2), i + 1);
        }
        CHECKS.due("an 11th", x.churn(11, 9, 1439, 100), -1);
        CHECKS.due("about(2)", x.about(2), 10);
        CHECKS.due("of(10, 0)", x.of(10, 0), -1);
        CHECKS.due("the 10th as it was", x.of(9, 0), 9);
        CHECKS.due("the first as it was", x.of(0, 0), 0);
        x.pour(0, 0);
        CHECKS.due("an 11th when one is poured", x.churn(0, 1, 0, 1), -1);
    }

    /** Churns that can be and can't be, with one of four numbers as given. */
    private static void churns(int which, int[] can, int[] cannot) {
        for (int number : can) {
            MilkTrain x = new MilkTrain();
            int[] n = {3, 4, 5, 6};
            n[which] = number;
            CHECKS.due("churn with " + number + " at " + which, x.churn(n[0], n[1], n[2], n[3]), 0);
            for (int what = 0; what < 4; what++) {
                CHECKS.due("of(0, " + what + ")", x.of(0, what), n[what]);
            }
        }
        MilkTrain x = new MilkTrain();
        for (int number : cannot) {
            int[] n = {3, 4, 5, 6};
            n[which] = number;
            CHECKS.due("churn with " + number + " at " + which, x.churn(n[0], n[1], n[2], n[3]), -1);
            CHECKS.due("about(2)", x.about(2), 0);
        }
        CHECKS.due("a churn behind those refused", x.churn(3, 4, 5, 6), 0);
    }

    // "of a FARM (0 .. 11)"
    private static void farmsZeroTo11() {
        churns(0, new int[] {0, 11}, new int[] {-1, 12, Integer.MIN_VALUE, Integer.MAX_VALUE});
    }

    // "at a station (1 .. 9)"
    private static void stationsOneToNine() {
        churns(1, new int[] {1, 9}, new int[] {0, 10, -1, Integer.MIN_VALUE, Integer.MAX_VALUE});
    }

    // Promise 12: "(ready 0 .. 1439)"
    private static void readyZeroTo1439() {
        churns(2, new int[] {0, 1439}, new int[] {-1, 1440, Integer.MIN_VALUE, Integer.MAX_VALUE});
    }

    // "with PINTS (1 .. 100)"
    private static void pintsOneTo100() {
        churns(3, new int[] {1, 100}, new int[] {0, 101, -1, Integer.MIN_VALUE, Integer.MAX_VALUE});
    }

    // Promise 13: "NONE if there is none such"
    private static void whatsOfAChurn() {
        MilkTrain none = new MilkTrain();
        CHECKS.due("of(0, 0) of none", none.of(0, 0), -1);
        CHECKS.due("of(-1, 0) of none", none.of(-1, 0), -1);
        MilkTrain x = new MilkTrain();
        x.churn(3, 4, 5, 6);
        x.pour(0, 2);
        int[] want = {3, 4, 5, 6, 2};
        for (int what = -2; what < 8; what++) {
            boolean is = what >= 0 && what < want.length;
            CHECKS.due("of(0, " + what + ")", x.of(0, what), is ? want[what] : -1);
            CHECKS.due("of(1, " + what + ")", x.of(1, what), -1);
            CHECKS.due("of(-1, " + what + ")", x.of(-1, what), -1);
        }
    }

    // Promise 13: "4: the TANK into which it was POURED (NONE)"
    private static void tankOfAChurn() {
        MilkTrain x = new MilkTrain();
        for (int churn = 0; churn < 4; churn++) {
            x.churn(0, 1, 0, 10);
            CHECKS.due("not poured", x.of(churn, 4), -1);
            x.pour(churn, churn);
            CHECKS.due("poured", x.of(churn, 4), churn);
        }
        x.lead(3, 2, 10);
        CHECKS.due("poured into 3, led into 2", x.of(3, 4), 3);
        x.bottle(0, 10);
        CHECKS.due("poured into 0, bottled", x.of(0, 4), 0);
    }

    // "It is there from that minute on"
    private static void soursFromReadyOn() {
        MilkTrain x = Texts.office("train a carries 9:1 at 100,0 at 101;");
        for (int ready : new int[] {0, 1, 99, 100}) {
            int churn = x.churn(0, 1, ready, 1);
            CHECKS.way("ready at " + ready, x, churn, 6 * (101 - ready), 101, 1);
        }
    }

    // "it may board a train at its stop there, at that minute or a later one"
    private static void boardsAtReadyOrLater() {
        MilkTrain x = Texts.office("train a carries 9:1 at 10,0 at 20;train b carries 9:2 at 10,0 at 20;");
        CHECKS.way("a minute ahead", x, x.churn(0, 1, 9, 1), 66, 20, 1);
        CHECKS.way("at the very minute", x, x.churn(0, 1, 10, 1), 60, 20, 1);
        noWay("a minute behind", x, x.churn(0, 1, 11, 1));
        noWay("at a station without a train", x, x.churn(0, 3, 0, 1));
        x.delay(0, 1);
        CHECKS.way("a minute behind, by a delay", x, 2, 60, 21, 1);
        MilkTrain first = Texts.office("train a carries 9:1 at 0,0 at 1439;");
        CHECKS.way("at minute 0", first, first.churn(0, 1, 0, 1), 6 * 1439, 1439, 1);
        first.delay(0, 300);
        noWay("at minute 301", first, first.churn(0, 1, 301, 1));
        CHECKS.way("at minute 300", first, first.churn(0, 1, 300, 1), 6 * 1439, 1739, 1);
    }

    // "and leave it at a later stop of it"
    private static void leavesAtALaterStop() {
        MilkTrain x = Texts.office("train a carries 9:0 at 10,1 at 11,2 at 12;");
        noWay("the city is ahead", x, x.churn(0, 1, 0, 1));
        noWay("the last stop", x, x.churn(0, 2, 0, 1));
        MilkTrain y = Texts.office("train a carries 9:1 at 1,2 at 2,3 at 3,4 at 4,5 at 5,6 at 6,7 at 7,0 at 8;");
        for (int station = 1; station < 8; station++) {
            CHECKS.way("from " + station, y, y.churn(0, station, station, 1), 6 * (8 - station), 8, 1);
        }
    }

    // "and board another there at that minute or a later one"
    private static void boardsAnotherThenOrLater() {
        MilkTrain x = Texts.office("train b carries 9:2 at 49,0 at 60;train a carries 9:1 at 0,2 at 50,3 at 55;");
        x.churn(0, 1, 0, 1);
        noWay("a minute ahead", x, 0);
        x.delay(0, 1);
        CHECKS.way("at the very minute", x, 0, 366, 61, 2);
        x.delay(0, 2);
        CHECKS.way("a minute later", x, 0, 372, 62, 2);
        x.delay(1, 3);
        noWay("the first one later still", x, 0);
    }

    // "to a stop of a train at the CITY (its end there)"
    private static void endsAtTheFirstStopAtTheCity() {
        MilkTrain x = Texts.office("train a carries 9:1 at 0,0 at 10,2 at 20;train b carries 9:2 at 20,0 at 30;");
        x.warmth(0, 4);
        x.churn(0, 1, 0, 1);
        x.cooler(0, true);
        CHECKS.way("not over the city and back", x, 0, 0, 10, 1);
    }

    // "as if no other one rode"
    private static void asIfNoOtherRode() {
        MilkTrain x = Texts.office("train a carries 1:1 at 0,0 at 10;");
        for (int churn = 0; churn < 10; churn++) {
            x.churn(0, 1, 0, 1);
        }
        for (int churn = 0; churn < 10; churn++) {
            CHECKS.way("churn " + churn, x, churn, 60, 10, 1);
        }
    }

    // "the one by which it sours least"
    private static void theLeastSouring() {
        MilkTrain x = Texts.office("train a carries 9:1 at 0,2 at 1,0 at 100;train b carries 9:2 at 100,0 at 101;");
        x.churn(0, 1, 0, 1);
        CHECKS.way("earlier and with fewer trains", x, 0, 600, 100, 1);
        x.cooler(2, true);
        CHECKS.way("later and with more trains", x, 0, 6 + 99 + 6, 101, 2);
        // Of warmth 5 a minute's souring is 1, and a ride less by one minute is less by just 1.
        MilkTrain y = Texts.office("train a carries 9:1 at 0,0 at 60;train b carries 9:1 at 59,0 at 61;");
        y.warmth(0, 5);
        y.cooler(1, true);
        y.churn(0, 1, 0, 1);
        CHECKS.way("cooled for 59 minutes", y, 0, 2, 61, 1);
        String one = "train a carries 9:1 at 0,0 at 20;";
        String two = "train b carries 9:1 at 0,2 at 1;train c carries 9:2 at 10,0 at 20;";
        for (String text : new String[] {one + two, two + one}) {
            MilkTrain z = Texts.office(text);
            z.cooler(2, true);
            z.churn(0, 1, 0, 1);
            CHECKS.way("of one end, with more trains", z, 0, 6 + 9 + 60, 20, 2);
        }
    }

    // "of like ones that with the earliest end"
    private static void theEarliestEnd() {
        String[] texts = {"train a carries 9:1 at 0,0 at 11;train b carries 9:1 at 0,2 at 1;train c carries 9:2 at 1,0 at 10;",
            "train b carries 9:1 at 0,2 at 1;train c carries 9:2 at 1,0 at 10;train a carries 9:1 at 0,0 at 11;"};
        for (String text : texts) {
            MilkTrain x = Texts.office(text);
            x.warmth(0, 4);
            x.churn(0, 1, 0, 1);
            CHECKS.way("a minute earlier, with more trains", x, 0, 0, 10, 2);
        }
    }

    // "then with the fewest trains"
    private static void theFewestTrains() {
        String[] texts = {"train a carries 9:1 at 0,0 at 10;train b carries 9:1 at 0,2 at 1;train c carries 9:2 at 1,0 at 10;",
            "train b carries 9:1 at 0,2 at 1;train c carries 9:2 at 1,0 at 10;train a carries 9:1 at 0,0 at 10;"};
        for (String text : texts) {
            MilkTrain x = Texts.office(text);
            x.churn(0, 1, 0, 1);
            CHECKS.way("one train, not two", x, 0, 60, 10, 1);
        }
        MilkTrain y = Texts.office("train a carries 9:1 at 0,2 at 1,3 at 2;train b carries 9:2 at 1,3 at 2,0 at 3;"
            + "train c carries 9:1 at 0,4 at 1;train d carries 9:4 at 1,3 at 2;");
        y.churn(0, 1, 0, 1);
        CHECKS.way("two trains, not three", y, 0, 18, 3, 2);
    }

    // Promises 14 and 15: "NONE if there is no way, or no such CHURN"; "NONE likewise"
    private static void noneWithoutAWay() {
        MilkTrain x = new MilkTrain();
        noWay("no churn", x, 0);
        noWay("churn -1", x, -1);
        x.churn(0, 1, 0, 1);
        noWay("no train", x, 0);
        Texts.put(x, "train a carries 9:1 at 0,2 at 10;");
        x.timetable();
        noWay("no train to the city", x, 0);
        Texts.put(x, "train a carries 9:1 at 0,0 at 10;");
        x.timetable();
        CHECKS.way("a way", x, 0, 60, 10, 1);
        noWay("no churn 1", x, 1);
        noWay("no churn 10", x, 10);
        noWay("no churn least", x, Integer.MIN_VALUE);
        noWay("no churn most", x, Integer.MAX_VALUE);
        x.warmth(0, 4);
        CHECKS.way("a way without souring", x, 0, 0, 10, 1);
    }

    // Promise 15: "what 0: the minute at which it ends, 1: how many trains"
    private static void whatsOfAWay() {
        MilkTrain x = Texts.office("train a carries 9:1 at 0,0 at 10;");
        x.churn(0, 1, 0, 1);
        CHECKS.due("way(0, 0)", x.way(0, 0), 10);
        CHECKS.due("way(0, 1)", x.way(0, 1), 1);
        for (int what : new int[] {-1, 2, Integer.MIN_VALUE, Integer.MAX_VALUE}) {
            CHECKS.due("way(0, " + what + ")", x.way(0, what), -1);
        }
    }

    // Promise 16: "by one train to the CITY; NONE if it can't ride so"
    private static void byOneTrain() {
        MilkTrain x = Texts.office("train a carries 0:1 at 10,0 at 20,2 at 30;train b carries 9:2 at 20,3 at 21;"
            + "train c carries 9:3 at 21,0 at 22;");
        int early = x.churn(0, 1, 9, 1);
        int ready = x.churn(0, 1, 10, 1);
        int late = x.churn(0, 1, 11, 1);
        int behind = x.churn(0, 2, 20, 1);
        CHECKS.due("waiting a minute", x.by(early, 0), 66);
        CHECKS.due("at the very minute", x.by(ready, 0), 60);
        CHECKS.due("a minute late", x.by(late, 0), -1);
        CHECKS.due("the city is ahead", x.by(behind, 0), -1);
        CHECKS.due("not to the city", x.by(behind, 1), -1);
        CHECKS.due("not from its station", x.by(behind, 2), -1);
        CHECKS.due("but with a change", x.alone(behind), 12);
        x.warmth(0, 4);
        CHECKS.due("without souring", x.by(ready, 0), 0);
        for (int wrong : new int[] {-1, 3, 8, Integer.MIN_VALUE, Integer.MAX_VALUE}) {
            CHECKS.due("by(0, " + wrong + ")", x.by(0, wrong), -1);
        }
        for (int wrong : new int[] {-1, 4, 10, Integer.MIN_VALUE, Integer.MAX_VALUE}) {
            CHECKS.due("by(" + wrong + ", 0)", x.by(wrong, 0), -1);
        }
        CHECKS.due("by(0, 0) of nothing", new MilkTrain().by(0, 0), -1);
    }

    // As many as there can be: "At most 8 trains, 8 stops each"
    private static void eightTrainsOfEightStops() {
        StringBuilder text = new StringBuilder();
        for (int t = 0; t < 8; t++) {
            text.append("train ").append((char) ('a' + t)).append(" carries 1:");
            for (int k = 0; k < 8; k++) {
                text.append(k == 0 ? "" : ",").append((k + 1) % 8).append(" at ").append(10 * k + t);
            }
            text.append(';');
        }
        MilkTrain x = Texts.office(text.toString());
        CHECKS.due("train(7, 17)", x.train(7, 17), 0);
        CHECKS.due("train(7, 27)", x.train(7, 27), 77);
        for (int t = 0; t < 8; t++) {
            int churn = x.churn(0, 7, 60 + t, 1);
            CHECKS.way("ready for train " + t, x, churn, 60, 70 + t, 1);
            CHECKS.due("by train " + t, x.by(churn, t), 60);
            CHECKS.due("by the train ahead of " + t, x.by(churn, t - 1), -1);
        }
        CHECKS.way("ready at the first stop", x, x.churn(0, 1, 0, 1), 420, 70, 1);
        noWay("ready behind the last stop", x, x.churn(0, 7, 68, 1));
        CHECKS.due("lost", x.lost(), 2);
        CHECKS.due("souring", x.souring(), 480);
    }
}
