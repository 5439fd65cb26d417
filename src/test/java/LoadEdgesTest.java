/** The edges of LOADING, SOUR and of promises 17 to 19: one method for each sentence that names one. */
final class LoadEdgesTest {
    private static final Checks CHECKS = new Checks();
    private static final int LEFT = -1;

    public static void main(String[] args) {
        nothingToLoad();
        onOneTrain();
        readyOrLaterAndThenTheCity();
        notMoreThanTold();
        allTenAndNone();
        sourByTheLimitOrMore();
        theLimitAtFirst();
        theLeastAndTheLargestLimit();
        leftOrSourIsLost();
        theLeastLost();
        thenTheLeastSouring();
        thenTheFirstByTrains();
        leftBehindAllTrains();
        churnsThatAre();
        whicheverIsAskedFirst();
        CHECKS.end();
    }

    // Nothing there yet: no churn, no train
    private static void nothingToLoad() {
        MilkTrain x = new MilkTrain();
        CHECKS.best("nothing", x, 0, 0);
        x.churn(0, 1, 0, 100);
        CHECKS.best("no train", x, 100, 0, LEFT);
        CHECKS.best("no churn", Texts.office(Texts.THREE), 0, 0);
        for (int churn = 1; churn < 10; churn++) {
            x.churn(0, 1, 0, 100);
        }
        CHECKS.best("ten churns and no train", x, 1000, 0, LEFT, LEFT, LEFT, LEFT, LEFT, LEFT, LEFT, LEFT, LEFT, LEFT);
    }

    // "each churn rides on one train from its station to the CITY .. or is LEFT"
    private static void onOneTrain() {
        MilkTrain x = Texts.office("train a carries 9:1 at 0,2 at 5;train b carries 9:2 at 5,0 at 10;");
        x.churn(0, 1, 0, 3);
        CHECKS.due("there is a way with a change", x.way(0, 1), 2);
        CHECKS.best("no train alone", x, 3, 0, LEFT);
        x.churn(0, 2, 5, 4);
        CHECKS.best("one that has a train", x, 3, 30, LEFT, 1);
    }

    // "(a train that stops at its station when it is ready or later, and then at the CITY)"
    private static void readyOrLaterAndThenTheCity() {
        MilkTrain x = Texts.office("train a carries 9:2 at 5,1 at 10,0 at 20,3 at 30;");
        x.churn(0, 1, 9, 1);
        x.churn(0, 1, 10, 2);
        x.churn(0, 1, 11, 4);
        x.churn(0, 3, 0, 8);
        x.churn(0, 4, 0, 16);
        CHECKS.best("ready at 9, 10, 11; behind the city; elsewhere", x, 28, 126, 0, 0, LEFT, LEFT, LEFT);
        x.delay(0, 1);
        CHECKS.best("a minute later", x, 24, 72 + 66 + 60, 0, 0, 0, LEFT, LEFT);
    }

    // "No train carries more churns than told"
    private static void notMoreThanTold() {
        for (int carries = 0; carries <= 4; carries++) {
            MilkTrain x = Texts.office("train a carries " + carries + ":1 at 0,0 at 10;");
            for (int churn = 0; churn < 3; churn++) {
                x.churn(0, 1, 0, 7);
            }
            int rides = Math.min(3, carries);
            CHECKS.best("carries " + carries, x, 7 * (3 - rides), 60 * rides, rides > 0 ? 0 : LEFT, rides > 1 ? 0 : LEFT,
                rides > 2 ? 0 : LEFT);
        }
    }

    // As many as there can be: 10 churns; "N 0 .. 99"
    private static void allTenAndNone() {
        for (int carries : new int[] {0, 9, 10, 99}) {
            MilkTrain x = Texts.office("train a carries " + carries + ":1 at 0,0 at 10;");
            for (int churn = 0; churn < 10; churn++) {
                x.churn(0, 1, 0, 100);
            }
            int rides = Math.min(10, carries);
            CHECKS.best("ten, carries " + carries, x, 100 * (10 - rides), 60 * rides);
            for (int churn = 0; churn < 10; churn++) {
                CHECKS.due("load(" + churn + ")", x.load(churn), churn < rides ? 0 : LEFT);
            }
        }
    }

    // "SOUR it is at the CITY if it has soured by LIMIT .. or more"
    private static void sourByTheLimitOrMore() {
        MilkTrain x = Texts.office("train a carries 9:1 at 0,0 at 10;");
        x.churn(0, 1, 0, 5);
        x.limit(61);
        CHECKS.best("soured 60 of 61", x, 0, 60, 0);
        x.limit(60);
        CHECKS.best("soured 60 of 60", x, 5, 0, LEFT);
        x.limit(59);
        CHECKS.best("soured 60 of 59", x, 5, 0, LEFT);
        CHECKS.due("by(0, 0), sour or not", x.by(0, 0), 60);
        CHECKS.due("alone(0), sour or not", x.alone(0), 60);
    }

    // "LIMIT (.. 1000 at first)"
    private static void theLimitAtFirst() {
        for (int minutes = 999; minutes <= 1001; minutes++) {
            MilkTrain x = Texts.office("train a carries 9:1 at 0,0 at " + minutes + ";");
            x.warmth(0, 5);
            x.churn(0, 1, 0, 5);
            boolean rides = minutes < 1000;
            CHECKS.best("soured " + minutes, x, rides ? 0 : 5, rides ? minutes : 0, rides ? 0 : LEFT);
        }
    }

    // "LIMIT (1 .. 100000 ..)"
    private static void theLeastAndTheLargestLimit() {
        MilkTrain x = Texts.office("train a carries 9:1 at 1438,0 at 1439;");
        x.churn(0, 1, 0, 5);
        x.warmth(0, 40);
        x.delay(0, 300);
        int most = 36 * 1739;
        x.limit(100000);
        CHECKS.best("the most that can be", x, 0, most, 0);
        x.limit(most + 1);
        CHECKS.best("a limit just above it", x, 0, most, 0);
        x.limit(most);
        CHECKS.best("a limit at it", x, 5, 0, LEFT);
        x.limit(1);
        x.warmth(0, 4);
        CHECKS.best("souring 0 of 1", x, 0, 0, 0);
        x.warmth(23, 5);
        x.warmth(22, 4);
        x.cooler(1, true);
        CHECKS.best("souring 1 of 1", x, 5, 0, LEFT);
        CHECKS.due("by(0, 0)", x.by(0, 0), 1);
    }

    // "LOST are the PINTS of churns that are LEFT, or SOUR at the CITY"
    private static void leftOrSourIsLost() {
        MilkTrain x = Texts.office("train a carries 1:1 at 10,0 at 20;train b carries 9:2 at 10,0 at 20;");
        x.limit(120);
        x.churn(0, 1, 10, 1);
        x.churn(0, 1, 10, 2);
        x.churn(0, 2, 0, 4);
        x.churn(0, 2, 1, 8);
        CHECKS.best("one left, one sour", x, 5, 60 + 114, LEFT, 0, LEFT, 1);
    }

    // "BEST has the least LOST"
    private static void theLeastLost() {
        MilkTrain x = Texts.office("train a carries 1:2 at 5,1 at 10,0 at 20;");
        x.limit(100000);
        x.warmth(0, 40);
        x.churn(0, 1, 10, 99);
        x.churn(0, 2, 0, 100);
        CHECKS.best("one pint against all souring", x, 99, 36 * 20, LEFT, 0);
        MilkTrain y = Texts.office("train a carries 2:2 at 5,1 at 10,0 at 20;train b carries 1:1 at 10,0 at 20;");
        y.churn(0, 1, 0, 1);
        y.churn(0, 2, 0, 1);
        y.churn(0, 2, 0, 1);
        CHECKS.best("churn 0 gives way", y, 0, 120 * 3, 1, 0, 0);
        onePintAgainstTheMostSouring();
    }

    /** For one pint one churn sours as much as can be, and another moves to a train far worse. */
    private static void onePintAgainstTheMostSouring() {
        MilkTrain x = Texts.office("train a carries 1:2 at 1437,1 at 1438,0 at 1439;train b carries 1:1 at 0,0 at 1439;");
        x.warmth(0, 40);
        x.limit(100000);
        x.delay(0, 300);
        x.delay(1, 300);
        x.cooler(1, true);
        x.churn(0, 1, 0, 100);
        CHECKS.best("cooled till the end", x, 0, 9 * 1738 + 36, 0);
        x.churn(0, 2, 0, 1);
        CHECKS.best("both ride", x, 0, 9 * 300 + 36 * 1439 + 36 * 1739, 1, 0);
    }

    // "of like ones the least souring of all that ride, together"
    private static void thenTheLeastSouring() {
        MilkTrain x = Texts.office("train a carries 1:1 at 10,0 at 21;train b carries 1:1 at 10,2 at 11,0 at 20;");
        x.warmth(0, 5);
        x.churn(0, 1, 10, 10);
        CHECKS.best("less by 1", x, 0, 10, 1);
        x.churn(0, 2, 11, 10);
        CHECKS.best("together, with more for churn 0", x, 0, 11 + 9, 0, 1);
        x.churn(0, 1, 9, 10);
        CHECKS.best("of like pints the one that sours less rides", x, 10, 11 + 9, 0, 1, LEFT);
        x.churn(0, 1, 9, 11);
        CHECKS.best("of more pints the other", x, 20, 12 + 9, LEFT, 1, LEFT, 0);
    }

    // "of like ones the first by the trains of churn 0, 1, .. (the least numbers ..)"
    private static void thenTheFirstByTrains() {
        StringBuilder text = new StringBuilder();
        for (int t = 0; t < 8; t++) {
            text.append("train ").append((char) ('a' + t)).append(" carries 1:1 at 0,0 at 10;");
        }
        MilkTrain x = Texts.office(text.toString());
        for (int churn = 0; churn < 10; churn++) {
            x.churn(0, 1, 0, 7);
        }
        CHECKS.best("eight of ten", x, 14, 480, 0, 1, 2, 3, 4, 5, 6, 7, LEFT, LEFT);
        MilkTrain y = Texts.office("train a carries 1:1 at 0,0 at 10;train b carries 1:1 at 0,0 at 10;");
        y.churn(0, 1, 0, 7);
        CHECKS.best("one of like trains", y, 0, 60, 0);
        y.churn(0, 1, 0, 7);
        CHECKS.best("two on like trains", y, 0, 120, 0, 1);
        MilkTrain z = Texts.office("train a carries 1:1 at 0,2 at 1,0 at 10;train b carries 1:1 at 0,2 at 1,0 at 10;");
        z.churn(0, 2, 1, 7);
        z.churn(0, 1, 0, 7);
        CHECKS.best("churn 0 first", z, 0, 54 + 60, 0, 1);
        laterChurnsMoveTheFirstOnesLast();
    }

    /** Churn 2 needs a place of train a: churn 1 gives it, and churn 0 keeps the train of least number. */
    private static void laterChurnsMoveTheFirstOnesLast() {
        MilkTrain x = Texts.office("train a carries 2:1 at 0,2 at 1,0 at 10;train b carries 9:1 at 0,0 at 10;");
        x.churn(0, 1, 0, 7);
        x.churn(0, 1, 0, 7);
        CHECKS.best("two on the first train", x, 0, 120, 0, 0);
        x.churn(0, 2, 1, 7);
        CHECKS.best("churn 1 moves", x, 0, 60 + 60 + 54, 0, 1, 0);
        MilkTrain y = Texts.office("train a carries 2:1 at 0,0 at 10;");
        y.churn(0, 1, 0, 7);
        y.churn(0, 1, 0, 7);
        y.churn(0, 1, 0, 8);
        CHECKS.best("churn 1 is left", y, 7, 120, 0, LEFT, 0);
        MilkTrain z = Texts.office("train a carries 1:1 at 0,2 at 1,0 at 10;train b carries 1:2 at 1,1 at 2,0 at 10;"
            + "train c carries 1:1 at 2,0 at 10;train d carries 1:2 at 1,0 at 10;");
        z.churn(0, 1, 0, 7);
        z.churn(0, 2, 0, 7);
        CHECKS.best("the least for churn 0, whatever for churn 1", z, 0, 120, 0, 1);
        z.churn(0, 2, 0, 7);
        CHECKS.best("and for churn 1 ahead of churn 2", z, 0, 180, 0, 1, 3);
    }

    // "LEFT behind all trains"
    private static void leftBehindAllTrains() {
        // The first seven trains carry 0.
        MilkTrain x = Texts.office(Reading.trains(7) + "train z carries 1:1 at 0,0 at 10;");
        x.churn(0, 1, 0, 7);
        x.churn(0, 1, 0, 7);
        CHECKS.best("one place, on the last train", x, 7, 60, 7, LEFT);
        MilkTrain y = Texts.office("train a carries 1:1 at 0,0 at 10;");
        y.warmth(0, 4);
        y.churn(0, 1, 0, 7);
        y.churn(0, 1, 0, 7);
        y.churn(0, 1, 0, 7);
        CHECKS.best("one place for three alike", y, 14, 0, 0, LEFT, LEFT);
    }

    // Promise 19: "NONE if it is LEFT, or there is none such"
    private static void churnsThatAre() {
        MilkTrain x = Texts.office("train a carries 1:1 at 0,0 at 10;");
        CHECKS.due("load(0) of none", x.load(0), -1);
        x.churn(0, 1, 0, 7);
        x.churn(0, 1, 0, 6);
        CHECKS.due("load(0)", x.load(0), 0);
        CHECKS.due("load(1), left", x.load(1), -1);
        for (int churn : new int[] {-1, 2, 9, 10, Integer.MIN_VALUE, Integer.MAX_VALUE}) {
            CHECKS.due("load(" + churn + ")", x.load(churn), -1);
        }
    }

    // Promises 17 to 19: each answers of BEST as things are, also when it is the first one asked
    private static void whicheverIsAskedFirst() {
        MilkTrain x = Texts.office("train a carries 1:1 at 0,0 at 10;train b carries 1:1 at 0,0 at 12;");
        x.churn(0, 1, 0, 7);
        x.churn(0, 1, 0, 6);
        CHECKS.due("souring() first", x.souring(), 60 + 72);
        x.delay(0, 3);
        CHECKS.due("souring() after a delay", x.souring(), 72 + 78);
        x.limit(75);
        CHECKS.due("load(0) after a limit", x.load(0), 1);
        x.warmth(0, 5);
        CHECKS.due("load(1) after a warmth", x.load(1), 1);
        x.churn(0, 1, 0, 8);
        CHECKS.due("load(1) after a churn", x.load(1), LEFT);
        x.limit(1);
        CHECKS.due("lost() after a limit", x.lost(), 21);
        x.warmth(0, 0);
        CHECKS.due("lost() after a warmth", x.lost(), 6);
        x.warmth(0, 8);
        x.limit(100);
        CHECKS.due("souring() after both", x.souring(), 4 * (13 + 12));
        x.cooler(1, true);
        CHECKS.due("souring() after a cooler", x.souring(), 3 + 4 * 10 + 4 * 12);
        x.timetable();
        CHECKS.due("souring() after a timetable", x.souring(), 0);
        CHECKS.due("load(0) after a timetable", x.load(0), LEFT);
        CHECKS.due("lost() after a timetable", x.lost(), 21);
    }
}
