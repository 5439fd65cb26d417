/** Promises 1 to 3: a new object, feed, end. */
final class TapeTest {
    private static final Checks CHECKS = new Checks();

    public static void main(String[] args) {
        newObject();
        feeding();
        ending();
        CHECKS.end();
    }

    private static void newObject() {
        MilkTrain x = new MilkTrain();
        int[] about = {0, 0, 0, 0, 0, 0, 1000};
        for (int what = 0; what < about.length; what++) {
            CHECKS.due("new about(" + what + ")", x.about(what), about[what]);
        }
        CHECKS.due("new train(0, 0)", x.train(0, 0), -1);
        CHECKS.due("new delay(0, 0)", x.delay(0, 0), false);
        CHECKS.due("new of(0, 0)", x.of(0, 0), -1);
        CHECKS.due("new fault(0)", x.fault(0), 0);
        CHECKS.due("new fault(1)", x.fault(1), -1);
        CHECKS.due("new lost()", x.lost(), 0);
        CHECKS.due("new souring()", x.souring(), 0);
        CHECKS.due("new load(0)", x.load(0), -1);
        CHECKS.due("new recall(0)", x.recall(0), 0);
        CHECKS.due("new alone(0)", x.alone(0), -1);
        CHECKS.due("new way(0, 0)", x.way(0, 0), -1);
        CHECKS.due("new by(0, 0)", x.by(0, 0), -1);
        CHECKS.due("new bottling(0, 0)", x.bottling(0, 0), -1);
        CHECKS.due("new recalled(0, 0)", x.recalled(0, 0), -1);
        CHECKS.due("new untell(0)", x.untell(0), false);
        CHECKS.due("new pour(0, 0)", x.pour(0, 0), -1);
        CHECKS.due("new bottle(0, 1)", x.bottle(0, 1), -1);
        CHECKS.due("new lead(0, 1, 1)", x.lead(0, 1, 1), -1);
        CHECKS.due("new timetable()", x.timetable(), 0);
        for (int tank = 0; tank < 4; tank++) {
            CHECKS.due("new tank(" + tank + ", 0)", x.tank(tank, 0), 0);
            CHECKS.due("new tank(" + tank + ", 1)", x.tank(tank, 1), 0);
        }
    }

    private static void feeding() {
        MilkTrain x = new MilkTrain();
        for (int i = 1; i <= 50; i++) {
            CHECKS.due("feed no. " + i, x.feed(0x20202020, 0x20202020, 0x20202020, 0x20202020, 0x20202020), 20 * i);
        }
        CHECKS.due("feed on a full tape", x.feed(0, 0, 0, 0, 0), -1);
        CHECKS.due("bytes", x.about(5), 1000);
        CHECKS.due("timetable of blanks", x.timetable(), 0);
        CHECKS.due("bytes then", x.about(5), 0);
        x.end(0);
        Texts.put(x, " ".repeat(981));
        CHECKS.due("feed at 981", x.feed(0, 0, 0, 0, 0), -1);
        CHECKS.due("bytes at 981", x.about(5), 981);
        x.end(980);
        CHECKS.due("feed at 980", x.feed(0x20202020, 0x20202020, 0x20202020, 0x20202020, 0x2020205a), 1000);
        CHECKS.due("the last byte is no token", x.timetable(), -1);
        CHECKS.due("its place", x.fault(1), 999);
        highestByteFirst();
    }

    private static void highestByteFirst() {
        // One byte that is no token at each of the twenty places.
        for (int at = 0; at < 20; at++) {
            int[] n = new int[5];
            for (int i = 0; i < 20; i++) {
                n[i / 4] = n[i / 4] << 8 | (i == at ? 0xFF : 10);
            }
            MilkTrain x = new MilkTrain();
            x.feed(n[0], n[1], n[2], n[3], n[4]);
            x.timetable();
            CHECKS.due("fault of byte 255 at " + at, x.fault(0), 1);
            CHECKS.due("place of byte 255 at " + at, x.fault(1), at);
        }
    }

    private static void ending() {
        MilkTrain x = new MilkTrain();
        CHECKS.due("end(0) of none", x.end(0), 0);
        CHECKS.due("end(1) of none", x.end(1), -1);
        x.feed(0, 0, 0, 0, 0);
        CHECKS.due("end(21)", x.end(21), -1);
        CHECKS.due("end(-1)", x.end(-1), -1);
        CHECKS.due("end(least)", x.end(Integer.MIN_VALUE), -1);
        CHECKS.due("end(most)", x.end(Integer.MAX_VALUE), -1);
        CHECKS.due("bytes still", x.about(5), 20);
        CHECKS.due("end(20)", x.end(20), 20);
        CHECKS.due("end(7)", x.end(7), 7);
        CHECKS.due("bytes", x.about(5), 7);
        CHECKS.due("feed behind them", x.feed(0, 0, 0, 0, 0), 27);
    }
}
