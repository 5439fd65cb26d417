/** The edges of WARMTH, COOLER, LIMIT and of promises 8 to 11: one method for each sentence that names one. */
final class SouringEdgesTest {
    private static final Checks CHECKS = new Checks();

    public static void main(String[] args) {
        hoursZeroTo23();
        warmthZeroTo40();
        hoursBehind23();
        meanOfTheNextOnes();
        theOneThatIsTold();
        tenIfNoneIs();
        toldAsNot();
        lessFourZeroAtLeast();
        theHourOfAMinute();
        aFourthCut();
        minutesThatAre();
        stationsThatAre();
        coolersThatAre();
        limitsThatAre();
        CHECKS.end();
    }

    private static int inHour(MilkTrain x, int hour) {
        return x.sours(60 * hour, -1);
    }

    // "WARMTH of an hour (0 .. 23 ..)"
    private static void hoursZeroTo23() {
        MilkTrain x = new MilkTrain();
        for (int hour = 0; hour < 24; hour++) {
            CHECKS.due("warmth(" + hour + ", " + (hour + 5) + ")", x.warmth(hour, hour + 5), true);
        }
        for (int hour : new int[] {-1, 24, 28, Integer.MIN_VALUE, Integer.MAX_VALUE}) {
            CHECKS.due("warmth(" + hour + ", 40)", x.warmth(hour, 40), false);
            CHECKS.due("warmth(" + hour + ", NONE)", x.warmth(hour, -1), false);
        }
        for (int hour = 0; hour < 24; hour++) {
            CHECKS.due("hour " + hour, inHour(x, hour), hour + 1);
        }
    }

    // "is told (0 .. 40)"
    private static void warmthZeroTo40() {
        MilkTrain x = new MilkTrain();
        CHECKS.due("warmth(9, 40)", x.warmth(9, 40), true);
        CHECKS.due("hour 9", inHour(x, 9), 36);
        CHECKS.due("warmth(9, 0)", x.warmth(9, 0), true);
        CHECKS.due("hour 9 of warmth 0, that is told", inHour(x, 9), 0);
        x.warmth(9, 40);
        for (int warmth : new int[] {41, -2, Integer.MIN_VALUE, Integer.MAX_VALUE}) {
            CHECKS.due("warmth(9, " + warmth + ")", x.warmth(9, warmth), false);
            CHECKS.due("hour 9 as it was", inHour(x, 9), 36);
        }
    }

    // "24 and on: that of 23"
    private static void hoursBehind23() {
        MilkTrain x = new MilkTrain();
        for (int hour = 24; hour < 29; hour++) {
            CHECKS.due("none told: hour " + hour, inHour(x, hour), 6);
        }
        x.warmth(0, 40);
        x.warmth(22, 20);
        for (int hour = 23; hour < 29; hour++) {
            CHECKS.due("23 not told: hour " + hour, inHour(x, hour), 16);
        }
        x.warmth(23, 11);
        for (int hour = 23; hour < 29; hour++) {
            CHECKS.due("23 told: hour " + hour, inHour(x, hour), 7);
        }
        CHECKS.due("minute 1439", x.sours(1439, -1), 7);
        CHECKS.due("minute 1440", x.sours(1440, -1), 7);
        CHECKS.due("hour 22 still", x.sours(1379, -1), 16);
    }

    // "if not: the mean (cut) of those told next ahead and next behind"
    private static void meanOfTheNextOnes() {
        MilkTrain x = new MilkTrain();
        x.warmth(0, 40);
        x.warmth(3, 11);
        x.warmth(5, 20);
        x.warmth(23, 0);
        int[] want = {36, 21, 21, 7, 11, 16, 6, 6};
        for (int hour = 0; hour < want.length; hour++) {
            CHECKS.due("hour " + hour, inHour(x, hour), want[hour]);
        }
        CHECKS.due("hour 22", inHour(x, 22), 6);
        MilkTrain zero = new MilkTrain();
        zero.warmth(1, 0);
        zero.warmth(3, 40);
        CHECKS.due("of a 0 that is told", inHour(zero, 2), 16);
    }

    // "or the one that is told of these"
    private static void theOneThatIsTold() {
        for (int told = 0; told < 24; told++) {
            MilkTrain x = new MilkTrain();
            x.warmth(told, 31);
            CHECKS.due("only " + told + " told: hour 0", inHour(x, 0), 27);
            CHECKS.due("only " + told + " told: hour 12", inHour(x, 12), 27);
            CHECKS.due("only " + told + " told: hour 23", inHour(x, 23), 27);
        }
        MilkTrain x = new MilkTrain();
        x.warmth(10, 5);
        x.warmth(12, 40);
        CHECKS.due("next behind", inHour(x, 9), 1);
        CHECKS.due("next ahead", inHour(x, 13), 36);
    }

    // "10 if none is"
    private static void tenIfNoneIs() {
        MilkTrain x = new MilkTrain();
        for (int hour = 0; hour < 29; hour++) {
            CHECKS.due("hour " + hour, inHour(x, hour), 6);
        }
        x.warmth(0, 40);
        x.warmth(0, -1);
        CHECKS.due("hour 0, told no more", inHour(x, 0), 6);
        CHECKS.due("hour 23, told no more", inHour(x, 23), 6);
    }

    // Promise 8: "is told (NONE: not): true"
    private static void toldAsNot() {
        MilkTrain x = new MilkTrain();
        CHECKS.due("warmth(7, NONE) of one not told", x.warmth(7, MilkTrain.NONE), true);
        x.warmth(6, 10);
        x.warmth(7, 40);
        x.warmth(8, 20);
        CHECKS.due("warmth(7, NONE)", x.warmth(7, MilkTrain.NONE), true);
        CHECKS.due("hour 7", inHour(x, 7), 11);
        CHECKS.due("hour 6 still", inHour(x, 6), 6);
    }

    // "by WARMTH less 4 (0 at least)"
    private static void lessFourZeroAtLeast() {
        MilkTrain x = new MilkTrain();
        for (int warmth = 0; warmth <= 40; warmth++) {
            x.warmth(4, warmth);
            CHECKS.due("warmth " + warmth, inHour(x, 4), warmth < 4 ? 0 : warmth - 4);
        }
    }

    // "in each minute (the one that begins at m, of hour m / 60)"
    private static void theHourOfAMinute() {
        MilkTrain x = Texts.office("train a carries 1:1 at 59,0 at 61;train b carries 1:1 at 58,0 at 60;");
        x.warmth(0, 5);
        x.warmth(1, 14);
        CHECKS.due("minute 59", x.sours(59, -1), 1);
        CHECKS.due("minute 60", x.sours(60, -1), 10);
        x.churn(0, 1, 58, 1);
        CHECKS.due("minutes 58 to 60", x.by(0, 0), 12);
        CHECKS.due("minutes 58 and 59", x.by(0, 1), 2);
    }

    // "where it waits at a station with a COOLER by a fourth of that (cut)"
    private static void aFourthCut() {
        MilkTrain x = new MilkTrain();
        x.cooler(5, true);
        for (int warmth = 0; warmth <= 40; warmth++) {
            x.warmth(4, warmth);
            int souring = warmth < 4 ? 0 : warmth - 4;
            CHECKS.due("cooled at warmth " + warmth, x.sours(240, 5), souring / 4);
            CHECKS.due("riding at warmth " + warmth, x.sours(240, -1), souring);
            CHECKS.due("without a cooler at warmth " + warmth, x.sours(240, 4), souring);
        }
        // Each minute is cut by itself: ten minutes of a fourth of 7 are 10, and not 17.
        MilkTrain y = Texts.office("train a carries 1:1 at 10,0 at 12;");
        y.warmth(0, 11);
        y.cooler(1, true);
        y.churn(0, 1, 0, 1);
        CHECKS.due("ten minutes cooled, two ridden", y.by(0, 0), 10 + 14);
        // Over the hours: fourths of 7, 8 and 11.
        MilkTrain z = Texts.office("train a carries 1:1 at 90,0 at 91;train b carries 1:1 at 180,0 at 181;");
        z.warmth(0, 11);
        z.warmth(1, 12);
        z.warmth(2, 15);
        z.warmth(3, 5);
        z.cooler(1, true);
        z.churn(0, 1, 0, 1);
        CHECKS.due("an hour and a half cooled", z.by(0, 0), 60 + 30 * 2 + 8);
        CHECKS.due("three hours cooled", z.by(0, 1), 60 + 60 * 2 + 60 * 2 + 1);
    }

    // Promise 9: "in a minute (0 .. 1739)"; "NONE if one can't be"
    private static void minutesThatAre() {
        MilkTrain x = new MilkTrain();
        x.warmth(0, 15);
        x.warmth(23, 25);
        CHECKS.due("sours(0, NONE)", x.sours(0, -1), 11);
        CHECKS.due("sours(1739, NONE)", x.sours(1739, -1), 21);
        for (int minute : new int[] {-1, 1740, -60, 1800, Integer.MIN_VALUE, Integer.MAX_VALUE}) {
            CHECKS.due("sours(" + minute + ", NONE)", x.sours(minute, -1), -1);
            CHECKS.due("sours(" + minute + ", 1)", x.sours(minute, 1), -1);
        }
    }

    // Promise 9: "waiting at a station (0 .. 9) or riding (NONE); NONE if one can't be"
    private static void stationsThatAre() {
        MilkTrain x = new MilkTrain();
        for (int station = -1; station <= 9; station++) {
            CHECKS.due("sours(100, " + station + ")", x.sours(100, station), 6);
        }
        for (int station : new int[] {-2, 10, Integer.MIN_VALUE, Integer.MAX_VALUE}) {
            CHECKS.due("sours(100, " + station + ")", x.sours(100, station), -1);
        }
    }

    // Promise 10: "false, doing nothing, if there is none such"
    private static void coolersThatAre() {
        for (int station = 0; station <= 9; station++) {
            MilkTrain x = new MilkTrain();
            CHECKS.due("no cooler at first at " + station, x.sours(0, station), 6);
            CHECKS.due("cooler(" + station + ", false) of none", x.cooler(station, false), true);
            CHECKS.due("cooler(" + station + ", true)", x.cooler(station, true), true);
            for (int other = -1; other <= 9; other++) {
                CHECKS.due("cooler at " + station + ": sours(0, " + other + ")", x.sours(0, other), other == station ? 1 : 6);
            }
            CHECKS.due("cooler(" + station + ", false)", x.cooler(station, false), true);
            CHECKS.due("sours(0, " + station + ") without", x.sours(0, station), 6);
        }
        MilkTrain x = new MilkTrain();
        for (int station : new int[] {-1, 10, Integer.MIN_VALUE, Integer.MAX_VALUE}) {
            CHECKS.due("cooler(" + station + ", true)", x.cooler(station, true), false);
            CHECKS.due("cooler(" + station + ", false)", x.cooler(station, false), false);
        }
        CHECKS.due("riding is not cooled", x.sours(0, -1), 6);
    }

    // "LIMIT (1 .. 100000; 1000 at first)"; promise 11: "true; false, doing nothing"
    private static void limitsThatAre() {
        MilkTrain x = new MilkTrain();
        CHECKS.due("at first", x.about(6), 1000);
        for (int limit : new int[] {1, 2, 99999, 100000}) {
            CHECKS.due("limit(" + limit + ")", x.limit(limit), true);
            CHECKS.due("about(6)", x.about(6), limit);
        }
        x.limit(50);
        for (int limit : new int[] {0, -1, 100001, Integer.MIN_VALUE, Integer.MAX_VALUE}) {
            CHECKS.due("limit(" + limit + ")", x.limit(limit), false);
            CHECKS.due("about(6) as it was", x.about(6), 50);
        }
    }
}
