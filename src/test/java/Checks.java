/** Counts the answers of one test that are not as due, and ends the test with them. */
final class Checks {
    private int seen = 0;
    private int wrong = 0;

    void due(String call, long got, long want) {
        seen++;
        if (got != want) {
            wrong++;
            System.out.println(call + " answered " + got + ", due is " + want);
        }
    }

    void due(String call, boolean got, boolean want) {
        due(call, got ? 1 : 0, want ? 1 : 0);
    }

    /** What the way of a churn is, alone. */
    void way(String call, MilkTrain x, int churn, int souring, int end, int trains) {
        due(call + ": alone", x.alone(churn), souring);
        due(call + ": way 0", x.way(churn, 0), end);
        due(call + ": way 1", x.way(churn, 1), trains);
    }

    /** What the best loading is, with the trains of the first churns. */
    void best(String call, MilkTrain x, int lost, int souring, int... trains) {
        due(call + ": lost", x.lost(), lost);
        due(call + ": souring", x.souring(), souring);
        for (int churn = 0; churn < trains.length; churn++) {
            due(call + ": load(" + churn + ")", x.load(churn), trains[churn]);
        }
    }

    void tank(String call, MilkTrain x, int tank, int pints, int farms) {
        due(call + ": pints of " + tank, x.tank(tank, 0), pints);
        due(call + ": farms of " + tank, x.tank(tank, 1), farms);
    }

    void end() {
        System.out.println(seen + " answers, " + wrong + " not as due");
        if (wrong != 0 || seen == 0) {
            System.exit(1);
        }
    }
}
