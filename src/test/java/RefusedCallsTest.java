import java.util.function.Predicate;
import java.util.function.Supplier;
import java.util.function.ToIntFunction;

/**
 * What the document says of refused calls: doing nothing; all stays; nothing comes. After each of
 * them all that can be asked, and all that can be done, is as if it had not been.
 */
final class RefusedCallsTest {
    private static final Checks CHECKS = new Checks();
    private static final Untouched UNTOUCHED = new Untouched(CHECKS);
    private static final String NEXT = "train q carries 7:4 at 1,0 at 9;";

    public static void main(String[] args) {
        Supplier<MilkTrain> busy = RefusedCallsTest::busy;
        Supplier<MilkTrain> full = RefusedCallsTest::full;
        Supplier<MilkTrain> empty = MilkTrain::new;
        onTheTape(busy);
        ofTrainsAndSouring(busy);
        ofChurns(busy);
        ofTanks(busy);
        ofFinds(busy);
        whenThereIsNothing(empty);
        whenThereIsAllThatCanBe(full);
        aFaultyTimetable();
        CHECKS.end();
    }

    /** Some of everything: clock 15, a fault, bytes of the next timetable, finds told and untold. */
    private static MilkTrain busy() {
        MilkTrain x = Texts.office(Texts.THREE);
        Texts.put(x, " ?");
        x.timetable();
        x.end(0);
        Texts.put(x, NEXT);
        x.delay(0, 10);
        x.delay(2, 300);
        x.warmth(0, 14);
        x.warmth(5, 24);
        x.cooler(3, true);
        x.limit(900);
        x.churn(3, 1, 55, 10);
        x.churn(4, 1, 0, 20);
        x.churn(5, 3, 0, 30);
        x.churn(6, 2, 95, 40);
        x.pour(0, 0);
        x.pour(2, 1);
        x.bottle(0, 4);
        x.find(3, 0);
        x.later(5);
        x.lead(1, 0, 7);
        x.bottle(0, 2);
        x.find(5, 3);
        x.untell(0);
        x.later(10);
        return x;
    }

    /** As much as there can be of bytes, trains, churns, bottlings, finds and minutes. */
    private static MilkTrain full() {
        MilkTrain x = Texts.office(Reading.trains(8));
        Texts.put(x, NEXT + " ".repeat(1000 - NEXT.length()));
        for (int churn = 0; churn < 10; churn++) {
            x.churn(churn, 1, 0, 100);
            x.pour(churn, churn < 5 ? 0 : 1);
        }
        for (int k = 0; k < 40; k++) {
            x.bottle(k % 2, 10);
        }
        for (int find = 0; find < 30; find++) {
            x.find(find % 12, find);
        }
        for (int i = 0; i < 100; i++) {
            x.later(1000);
        }
        return x;
    }

    private static void none(String call, Supplier<MilkTrain> office, ToIntFunction<MilkTrain> act) {
        CHECKS.due(call, act.applyAsInt(office.get()), MilkTrain.NONE);
        UNTOUCHED.check(call, office, act::applyAsInt);
    }

    private static void refused(String call, Supplier<MilkTrain> office, Predicate<MilkTrain> act) {
        CHECKS.due(call, act.test(office.get()), false);
        UNTOUCHED.check(call, office, act::test);
    }

    private static void onTheTape(Supplier<MilkTrain> busy) {
        none("end(-1)", busy, x -> x.end(-1));
        none("end(33)", busy, x -> x.end(33));
    }

    private static void ofTrainsAndSouring(Supplier<MilkTrain> busy) {
        int[][] delays = {{-1, 20}, {3, 20}, {0, -1}, {0, 301}};
        for (int[] d : delays) {
            refused("delay(" + d[0] + ", " + d[1] + ")", busy, x -> x.delay(d[0], d[1]));
        }
        int[][] warmths = {{-1, 30}, {24, 30}, {0, -2}, {0, 41}, {24, -1}};
        for (int[] w : warmths) {
            refused("warmth(" + w[0] + ", " + w[1] + ")", busy, x -> x.warmth(w[0], w[1]));
        }
        for (int station : new int[] {-1, 10}) {
            refused("cooler(" + station + ", true)", busy, x -> x.cooler(station, true));
            refused("cooler(" + station + ", false)", busy, x -> x.cooler(station, false));
        }
        refused("limit(0)", busy, x -> x.limit(0));
        refused("limit(100001)", busy, x -> x.limit(100001));
    }

    private static void ofChurns(Supplier<MilkTrain> busy) {
        int[][] churns = {{-1, 1, 0, 1}, {12, 1, 0, 1}, {0, 0, 0, 1}, {0, 10, 0, 1}, {0, 1, -1, 1}, {0, 1, 1440, 1},
            {0, 1, 0, 0}, {0, 1, 0, 101}};
        for (int[] c : churns) {
            none("churn" + java.util.Arrays.toString(c), busy, x -> x.churn(c[0], c[1], c[2], c[3]));
        }
    }

    private static void ofTanks(Supplier<MilkTrain> busy) {
        none("later(-1)", busy, x -> x.later(-1));
        none("later(1001)", busy, x -> x.later(1001));
        int[][] pours = {{0, 0}, {0, 3}, {2, 0}, {-1, 0}, {4, 0}, {1, -1}, {1, 4}};
        for (int[] p : pours) {
            none("pour(" + p[0] + ", " + p[1] + ")", busy, x -> x.pour(p[0], p[1]));
        }
        int[][] leads = {{0, 0, 1}, {1, 1, 1}, {0, 1, 0}, {0, 1, -1}, {0, 1, 12}, {2, 1, 1}, {-1, 1, 1}, {4, 1, 1},
            {0, -1, 1}, {0, 4, 1}};
        for (int[] l : leads) {
            none("lead" + java.util.Arrays.toString(l), busy, x -> x.lead(l[0], l[1], l[2]));
        }
        int[][] bottles = {{0, 0}, {0, -1}, {0, 12}, {2, 1}, {-1, 1}, {4, 1}};
        for (int[] b : bottles) {
            none("bottle(" + b[0] + ", " + b[1] + ")", busy, x -> x.bottle(b[0], b[1]));
        }
        CHECKS.due("the last pints that can be led", busy.get().lead(0, 1, 11), 0);
        CHECKS.due("the last pints that can be bottled", busy.get().bottle(0, 11), 2);
    }

    private static void ofFinds(Supplier<MilkTrain> busy) {
        int[][] finds = {{-1, 0}, {12, 0}, {3, -1}, {3, 100001}};
        for (int[] f : finds) {
            none("find(" + f[0] + ", " + f[1] + ")", busy, x -> x.find(f[0], f[1]));
        }
        for (int find : new int[] {-1, 0, 2}) {
            refused("untell(" + find + ")", busy, x -> x.untell(find));
        }
    }

    private static void whenThereIsNothing(Supplier<MilkTrain> empty) {
        none("end(1) of nothing", empty, x -> x.end(1));
        refused("delay(0, 1) of nothing", empty, x -> x.delay(0, 1));
        none("pour(0, 0) of nothing", empty, x -> x.pour(0, 0));
        none("lead(0, 1, 1) of nothing", empty, x -> x.lead(0, 1, 1));
        none("bottle(0, 1) of nothing", empty, x -> x.bottle(0, 1));
        refused("untell(0) of nothing", empty, x -> x.untell(0));
    }

    private static void whenThereIsAllThatCanBe(Supplier<MilkTrain> full) {
        none("feed on a full tape", full, x -> x.feed(-1, -1, -1, -1, -1));
        none("end(1001)", full, x -> x.end(1001));
        none("an 11th churn", full, x -> x.churn(0, 1, 0, 1));
        none("later(1) at the last minute", full, x -> x.later(1));
        none("later(1000) at the last minute", full, x -> x.later(1000));
        none("a 41st bottling", full, x -> x.bottle(0, 1));
        none("a 31st find", full, x -> x.find(3, 0));
        refused("untell(30)", full, x -> x.untell(30));
    }

    // Promise 4: "NONE: a FAULT (all stays)"
    private static void aFaultyTimetable() {
        String[] faulty = {"train z carries 1:1 at 5,0 at 6;?", "train z carries 1:1 at 5,0 at 6;train",
            "train z carries 1:1 at 5,0 at 6;train z", "train z carries 1:1 at 5,0 at 5;"};
        for (int fault = 1; fault <= 4; fault++) {
            String text = faulty[fault - 1];
            Supplier<MilkTrain> office = () -> {
                MilkTrain x = busy();
                x.end(0);
                Texts.put(x, text);
                return x;
            };
            MilkTrain x = office.get();
            CHECKS.due("timetable of '" + text + "'", x.timetable(), MilkTrain.NONE);
            CHECKS.due("fault(0) of '" + text + "'", x.fault(0), fault);
            UNTOUCHED.checkButFault("timetable of '" + text + "'", office, MilkTrain::timetable);
        }
    }
}
