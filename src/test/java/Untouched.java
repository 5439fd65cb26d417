import java.util.ArrayList;
import java.util.List;
import java.util.function.Consumer;
import java.util.function.Supplier;
import java.util.function.ToIntFunction;

/**
 * Whether a call leaves all as it was: of two offices that were made alike, one has had the call;
 * both are asked all that can be asked, and then do the same acts, with the same answers.
 */
final class Untouched {
    // With the calls that make an office these stay below the document's 512.
    private static final int PROBES_AN_OFFICE = 200;

    private record Probe(String call, ToIntFunction<MilkTrain> ask) {
    }

    private final Checks checks;
    private final List<Probe> faults = new ArrayList<>();
    private final List<Probe> questions = new ArrayList<>();
    private final List<List<Probe>> acts = new ArrayList<>();

    Untouched(Checks counter) {
        checks = counter;
        add(faults, "fault(0)", x -> x.fault(0));
        add(faults, "fault(1)", x -> x.fault(1));
        askOfTrains(questions);
        askOfSouring();
        askOfChurns();
        askOfTanks();
        askOfFinds();
        actOnTheTape();
        actOnChurns();
        actOnTanks();
        actOnFinds();
    }

    /** All stays by the call. */
    void check(String call, Supplier<MilkTrain> maker, Consumer<MilkTrain> made) {
        compare(call, maker, made, faults);
        checkButFault(call, maker, made);
    }

    /** All stays by the call, but for what fault() answers. */
    void checkButFault(String call, Supplier<MilkTrain> maker, Consumer<MilkTrain> made) {
        for (int at = 0; at < questions.size(); at += PROBES_AN_OFFICE) {
            compare(call, maker, made, questions.subList(at, Math.min(questions.size(), at + PROBES_AN_OFFICE)));
        }
        for (List<Probe> row : acts) {
            compare(call, maker, made, row);
        }
    }

    private void compare(String call, Supplier<MilkTrain> maker, Consumer<MilkTrain> made, List<Probe> probes) {
        MilkTrain with = maker.get();
        MilkTrain without = maker.get();
        made.accept(with);
        for (Probe probe : probes) {
            checks.due(call + ", then " + probe.call, probe.ask.applyAsInt(with), probe.ask.applyAsInt(without));
        }
    }

    private static void add(List<Probe> row, String call, ToIntFunction<MilkTrain> ask) {
        row.add(new Probe(call, ask));
    }

    private static void askOfTrains(List<Probe> row) {
        for (int t = 0; t < 8; t++) {
            for (int w = 0; w < 28; w++) {
                int train = t;
                int what = w;
                if (what < 3 || what >= 10 && what < 18 || what >= 20) {
                    add(row, "train(" + t + ", " + w + ")", x -> x.train(train, what));
                }
            }
        }
    }

    private void askOfSouring() {
        for (int h = 0; h < 29; h++) {
            for (int s = -1; s < 10; s++) {
                int minute = 60 * h;
                int station = s;
                add(questions, "sours(" + minute + ", " + s + ")", x -> x.sours(minute, station));
            }
        }
    }

    private void askOfChurns() {
        for (int c = 0; c < 10; c++) {
            int churn = c;
            for (int w = 0; w < 5; w++) {
                int what = w;
                add(questions, "of(" + c + ", " + w + ")", x -> x.of(churn, what));
            }
            for (int t = 0; t < 8; t++) {
                int train = t;
                add(questions, "by(" + c + ", " + t + ")", x -> x.by(churn, train));
            }
            add(questions, "alone(" + c + ")", x -> x.alone(churn));
            add(questions, "way(" + c + ", 0)", x -> x.way(churn, 0));
            add(questions, "way(" + c + ", 1)", x -> x.way(churn, 1));
            add(questions, "load(" + c + ")", x -> x.load(churn));
        }
        add(questions, "lost()", MilkTrain::lost);
        add(questions, "souring()", MilkTrain::souring);
    }

    private void askOfTanks() {
        for (int what = 0; what < 7; what++) {
            int asked = what;
            add(questions, "about(" + what + ")", x -> x.about(asked));
        }
        for (int t = 0; t < 4; t++) {
            int tank = t;
            add(questions, "tank(" + t + ", 0)", x -> x.tank(tank, 0));
            add(questions, "tank(" + t + ", 1)", x -> x.tank(tank, 1));
        }
        for (int k = 0; k < 40; k++) {
            for (int w = 0; w < 3; w++) {
                int bottling = k;
                int what = w;
                add(questions, "bottling(" + k + ", " + w + ")", x -> x.bottling(bottling, what));
            }
        }
    }

    private void askOfFinds() {
        int[] minutes = {0, 4, 5, 9, 10, 11, 15, 20, 99999, 100000};
        for (int k : minutes) {
            add(questions, "recall(" + k + ")", x -> x.recall(k));
            for (int b = 0; b < 40; b++) {
                int bottling = b;
                add(questions, "recalled(" + b + ", " + k + ")", x -> x.recalled(bottling, k));
            }
        }
    }

    private List<Probe> newAct() {
        List<Probe> row = new ArrayList<>();
        acts.add(row);
        return row;
    }

    /** The bytes themselves are seen only as a timetable. */
    private void actOnTheTape() {
        List<Probe> read = newAct();
        add(read, "timetable()", MilkTrain::timetable);
        askOfTrains(read);
        List<Probe> fed = newAct();
        add(fed, "feed(0, 0, 0, 0, 0)", x -> x.feed(0, 0, 0, 0, 0));
        add(fed, "timetable() of byte 0", MilkTrain::timetable);
        add(fed, "its fault's place", x -> x.fault(1));
    }

    private void actOnChurns() {
        List<Probe> row = newAct();
        add(row, "churn(1, 2, 3, 4)", x -> x.churn(1, 2, 3, 4));
        add(row, "about(2) then", x -> x.about(2));
        add(row, "lost() then", MilkTrain::lost);
        add(row, "later(0)", x -> x.later(0));
        add(row, "later(1)", x -> x.later(1));
    }

    private void actOnTanks() {
        List<Probe> row = newAct();
        for (int c = 0; c < 10; c++) {
            int churn = c;
            add(row, "pour(" + c + ", 3)", x -> x.pour(churn, 3));
        }
        add(row, "lead(3, 0, 1)", x -> x.lead(3, 0, 1));
        add(row, "tank(0, 1) then", x -> x.tank(0, 1));
        add(row, "tank(3, 1) then", x -> x.tank(3, 1));
        add(row, "bottle(0, 1)", x -> x.bottle(0, 1));
        add(row, "about(3) then", x -> x.about(3));
    }

    private void actOnFinds() {
        List<Probe> row = newAct();
        for (int f = 0; f < 30; f++) {
            int find = f;
            add(row, "untell(" + f + ")", x -> x.untell(find) ? 1 : 0);
        }
        add(row, "find(3, 0)", x -> x.find(3, 0));
        add(row, "recall(100000) then", x -> x.recall(100000));
    }
}
