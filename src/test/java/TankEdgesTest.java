/** The edges of CLOCK, TANKS, BOTTLINGS and of promises 20 to 25: one method for each sentence that names one. */
final class TankEdgesTest {
    private static final Checks CHECKS = new Checks();

    public static void main(String[] args) {
        theClockIsZeroAtFirst();
        laterZeroTo1000();
        notAbove100000();
        tanksZeroToThree();
        atMost1000Pints();
        pouredOnceAndWholly();
        churnsToPour();
        farmsOfATank();
        farmsSinceItWasEmpty();
        farmsAsTheyWereThen();
        leadingIntoAnotherOne();
        pintsToLead();
        pintsToBottle();
        fortyBottlings();
        farmsOfABottling();
        theMinuteOfABottling();
        whatsOfATank();
        whatsOfABottling();
        CHECKS.end();
    }

    // "a MINUTE of the CLOCK, that goes on (0 at first)"
    private static void theClockIsZeroAtFirst() {
        MilkTrain x = Texts.withChurns(10);
        CHECKS.due("about(0)", x.about(0), 0);
        x.pour(0, 0);
        x.bottle(0, 1);
        x.find(0, 5);
        CHECKS.due("acts do not move it", x.about(0), 0);
        CHECKS.due("later(1)", x.later(1), 1);
        CHECKS.due("about(0)", x.about(0), 1);
    }

    // Promise 20: "So many minutes later (0 .. 1000)"; "NONE, doing nothing, for another number"
    private static void laterZeroTo1000() {
        MilkTrain x = new MilkTrain();
        CHECKS.due("later(0)", x.later(0), 0);
        CHECKS.due("later(1000)", x.later(1000), 1000);
        CHECKS.due("later(999)", x.later(999), 1999);
        for (int minutes : new int[] {-1, 1001, -1000, Integer.MIN_VALUE, Integer.MAX_VALUE}) {
            CHECKS.due("later(" + minutes + ")", x.later(minutes), -1);
            CHECKS.due("about(0)", x.about(0), 1999);
        }
    }

    // Promise 20: "or if it would be above 100,000"
    private static void notAbove100000() {
        MilkTrain x = new MilkTrain();
        for (int i = 0; i < 99; i++) {
            x.later(1000);
        }
        CHECKS.due("later(1)", x.later(1), 99001);
        CHECKS.due("later(1000) to 100001", x.later(1000), -1);
        CHECKS.due("about(0)", x.about(0), 99001);
        CHECKS.due("later(999) to 100000", x.later(999), 100000);
        CHECKS.due("later(1) to 100001", x.later(1), -1);
        CHECKS.due("later(0) at 100000", x.later(0), 100000);
        CHECKS.due("about(0)", x.about(0), 100000);
    }

    // "TANKS 0 .. 3"
    private static void tanksZeroToThree() {
        MilkTrain x = Texts.withChurns(10, 10, 10, 10, 10);
        for (int tank = 0; tank < 4; tank++) {
            CHECKS.tank("nothing yet", x, tank, 0, 0);
            CHECKS.due("pour into " + tank, x.pour(tank, tank), 10);
        }
        for (int tank : new int[] {-1, 4, Integer.MIN_VALUE, Integer.MAX_VALUE}) {
            CHECKS.due("tank(" + tank + ", 0)", x.tank(tank, 0), -1);
            CHECKS.due("tank(" + tank + ", 1)", x.tank(tank, 1), -1);
            CHECKS.due("pour(4, " + tank + ")", x.pour(4, tank), -1);
            CHECKS.due("of(4, 4)", x.of(4, 4), -1);
            CHECKS.due("lead(0, " + tank + ", 1)", x.lead(0, tank, 1), -1);
            CHECKS.due("lead(" + tank + ", 0, 1)", x.lead(tank, 0, 1), -1);
            CHECKS.due("lead(" + tank + ", " + tank + ", 1)", x.lead(tank, tank, 1), -1);
            CHECKS.due("bottle(" + tank + ", 1)", x.bottle(tank, 1), -1);
        }
        for (int tank = 0; tank < 4; tank++) {
            CHECKS.tank("as it was", x, tank, 10, 1 << tank);
        }
        CHECKS.due("about(3)", x.about(3), 0);
        CHECKS.due("pour(4, 3)", x.pour(4, 3), 20);
        CHECKS.due("bottle(3, 20)", x.bottle(3, 20), 0);
    }

    // "hold at most 1,000 PINTS": ten churns of 100 just fill one, so that more can't come
    private static void atMost1000Pints() {
        MilkTrain x = Texts.withChurns(100, 100, 100, 100, 100, 100, 100, 100, 100, 100);
        for (int churn = 0; churn < 10; churn++) {
            CHECKS.due("pour(" + churn + ", 0)", x.pour(churn, 0), 100 * (churn + 1));
        }
        CHECKS.tank("full", x, 0, 1000, 0x3FF);
        CHECKS.due("lead all", x.lead(0, 3, 1000), 0);
        CHECKS.tank("filled at once", x, 3, 1000, 0x3FF);
        CHECKS.tank("led wholly", x, 0, 0, 0);
        CHECKS.due("lead one back", x.lead(3, 0, 1), 999);
        CHECKS.due("lead the rest to it", x.lead(3, 0, 999), 0);
        CHECKS.tank("filled by one more and by 999", x, 0, 1000, 0x3FF);
        MilkTrain y = Texts.withChurns(100, 100, 100, 100, 100, 100, 100, 100, 100, 100);
        for (int churn = 0; churn < 10; churn++) {
            y.pour(churn, churn == 9 ? 1 : 0);
        }
        CHECKS.due("lead(1, 0, 100)", y.lead(1, 0, 100), 0);
        CHECKS.tank("filled by leading", y, 0, 1000, 0x3FF);
    }

    // "A CHURN is POURED once, wholly, into one"; promise 21: "NONE, doing nothing, if it was"
    private static void pouredOnceAndWholly() {
        MilkTrain x = Texts.withChurns(100, 1);
        CHECKS.due("pour(0, 0)", x.pour(0, 0), 100);
        CHECKS.due("pour(0, 0) again", x.pour(0, 0), -1);
        CHECKS.due("pour(0, 1) again", x.pour(0, 1), -1);
        CHECKS.tank("as it was", x, 0, 100, 1);
        CHECKS.tank("nothing", x, 1, 0, 0);
        x.bottle(0, 100);
        CHECKS.due("pour(0, 0) when all is bottled", x.pour(0, 0), -1);
        CHECKS.due("of(0, 4)", x.of(0, 4), 0);
        CHECKS.tank("still empty", x, 0, 0, 0);
        CHECKS.due("pour(1, 0)", x.pour(1, 0), 1);
    }

    // Promise 21: "there is none such"
    private static void churnsToPour() {
        CHECKS.due("pour(0, 0) of none", new MilkTrain().pour(0, 0), -1);
        MilkTrain x = Texts.withChurns(10);
        for (int churn : new int[] {-1, 1, 9, 10, Integer.MIN_VALUE, Integer.MAX_VALUE}) {
            CHECKS.due("pour(" + churn + ", 0)", x.pour(churn, 0), -1);
        }
        CHECKS.tank("nothing", x, 0, 0, 0);
        CHECKS.due("pour(0, 0)", x.pour(0, 0), 10);
    }

    // "A TANK's FARMS are those of churns POURED into it": farms 0 .. 11 as bits
    private static void farmsOfATank() {
        MilkTrain x = new MilkTrain();
        int[] farms = {0, 11, 5, 5};
        int[] bits = {1, 2049, 2081, 2081};
        for (int churn = 0; churn < farms.length; churn++) {
            x.churn(farms[churn], 1, 0, 1);
            x.pour(churn, 0);
            CHECKS.tank("farm " + farms[churn], x, 0, churn + 1, bits[churn]);
        }
        x.bottle(0, 3);
        CHECKS.tank("of its last pint", x, 0, 1, 2081);
    }

    // "since it was empty last (of no PINT: none)"
    private static void farmsSinceItWasEmpty() {
        MilkTrain x = Texts.withChurns(10, 20, 30);
        x.pour(0, 0);
        x.bottle(0, 9);
        CHECKS.tank("one pint left", x, 0, 1, 1);
        x.pour(1, 0);
        CHECKS.tank("not empty between", x, 0, 21, 3);
        x.bottle(0, 21);
        CHECKS.tank("bottled wholly", x, 0, 0, 0);
        x.pour(2, 0);
        CHECKS.tank("since then", x, 0, 30, 4);
        CHECKS.due("lead(0, 1, 29)", x.lead(0, 1, 29), 1);
        CHECKS.tank("one pint not led", x, 0, 1, 4);
        CHECKS.due("lead(0, 1, 1)", x.lead(0, 1, 1), 0);
        CHECKS.tank("led wholly", x, 0, 0, 0);
        CHECKS.due("lead(1, 0, 30)", x.lead(1, 0, 30), 0);
        CHECKS.tank("led back", x, 0, 30, 4);
        CHECKS.tank("empty by it", x, 1, 0, 0);
    }

    // "and those of TANKS led into it (as they were then)"
    private static void farmsAsTheyWereThen() {
        MilkTrain x = Texts.withChurns(10, 20, 30);
        x.pour(0, 0);
        x.pour(1, 1);
        x.lead(0, 1, 10);
        CHECKS.tank("of the tank that is empty by it", x, 1, 30, 3);
        x.pour(2, 0);
        CHECKS.tank("not of what came later", x, 1, 30, 3);
        x.lead(1, 2, 1);
        CHECKS.tank("one pint leads back to all", x, 2, 1, 3);
        x.bottle(1, 29);
        CHECKS.tank("still, when that one is empty", x, 2, 1, 3);
    }

    // Promise 22: "NONE, doing nothing, if they are the same"
    private static void leadingIntoAnotherOne() {
        MilkTrain x = Texts.withChurns(10, 20, 30, 40);
        for (int tank = 0; tank < 4; tank++) {
            x.pour(tank, tank);
        }
        for (int tank = 0; tank < 4; tank++) {
            CHECKS.due("lead(" + tank + ", " + tank + ", 1)", x.lead(tank, tank, 1), -1);
            CHECKS.due("all of " + tank + " into itself", x.lead(tank, tank, 10 * (tank + 1)), -1);
            CHECKS.tank("as it was", x, tank, 10 * (tank + 1), 1 << tank);
        }
    }

    // Promise 22: "there are not so many (0, too)"
    private static void pintsToLead() {
        MilkTrain x = Texts.withChurns(10, 20);
        x.pour(0, 0);
        x.pour(1, 1);
        for (int pints : new int[] {0, -1, 11, 1001, Integer.MIN_VALUE, Integer.MAX_VALUE}) {
            CHECKS.due("lead(0, 1, " + pints + ")", x.lead(0, 1, pints), -1);
            CHECKS.tank("as it was", x, 0, 10, 1);
            CHECKS.tank("as it was", x, 1, 20, 2);
        }
        CHECKS.due("of an empty one: lead(2, 1, 1)", x.lead(2, 1, 1), -1);
        CHECKS.due("of an empty one: lead(2, 1, 0)", x.lead(2, 1, 0), -1);
        CHECKS.due("lead(0, 1, 1)", x.lead(0, 1, 1), 9);
        CHECKS.due("lead(0, 1, 10)", x.lead(0, 1, 10), -1);
        CHECKS.due("lead(0, 1, 9)", x.lead(0, 1, 9), 0);
        CHECKS.tank("all in one", x, 1, 30, 3);
    }

    // Promise 23: "NONE, doing nothing, if there are not so many PINTS (or 0)"
    private static void pintsToBottle() {
        MilkTrain x = Texts.withChurns(10);
        CHECKS.due("of an empty one: bottle(0, 1)", x.bottle(0, 1), -1);
        CHECKS.due("of an empty one: bottle(0, 0)", x.bottle(0, 0), -1);
        x.pour(0, 0);
        for (int pints : new int[] {0, -1, 11, Integer.MIN_VALUE, Integer.MAX_VALUE}) {
            CHECKS.due("bottle(0, " + pints + ")", x.bottle(0, pints), -1);
            CHECKS.due("about(3)", x.about(3), 0);
            CHECKS.tank("as it was", x, 0, 10, 1);
        }
        CHECKS.due("bottle(0, 1)", x.bottle(0, 1), 0);
        CHECKS.due("bottle(0, 10)", x.bottle(0, 10), -1);
        CHECKS.due("bottle(0, 9)", x.bottle(0, 9), 1);
        CHECKS.tank("empty", x, 0, 0, 0);
    }

    // "A BOTTLING, 40 at most"; promise 23: "or there are 40"
    private static void fortyBottlings() {
        MilkTrain x = Texts.withChurns(100);
        x.pour(0, 0);
        for (int k = 0; k < 40; k++) {
            CHECKS.due("bottling(" + k + ", 0), not yet", x.bottling(k, 0), -1);
            CHECKS.due("bottle no. " + k, x.bottle(0, 1 + k % 2), k);
            CHECKS.due("about(3)", x.about(3), k + 1);
        }
        CHECKS.due("a 41st", x.bottle(0, 1), -1);
        CHECKS.tank("nothing drawn", x, 0, 40, 1);
        CHECKS.due("about(3)", x.about(3), 40);
        CHECKS.due("bottling(39, 0)", x.bottling(39, 0), 2);
        CHECKS.due("bottling(40, 0)", x.bottling(40, 0), -1);
    }

    // "A BOTTLING has the FARMS that its TANK had"
    private static void farmsOfABottling() {
        MilkTrain x = Texts.withChurns(10, 20);
        x.pour(0, 0);
        x.bottle(0, 1);
        x.pour(1, 0);
        x.bottle(0, 1);
        x.bottle(0, 28);
        int[] farms = {1, 3, 3};
        for (int k = 0; k < 3; k++) {
            CHECKS.due("farms of bottling " + k, x.bottling(k, 1), farms[k]);
        }
    }

    // Promise 25: "2: the minute of the CLOCK at which it was made"
    private static void theMinuteOfABottling() {
        MilkTrain x = Texts.withChurns(10);
        x.pour(0, 0);
        x.bottle(0, 1);
        x.later(1);
        x.bottle(0, 1);
        for (int i = 0; i < 99; i++) {
            x.later(1000);
        }
        x.later(999);
        x.bottle(0, 1);
        int[] minutes = {0, 1, 100000};
        for (int k = 0; k < 3; k++) {
            CHECKS.due("minute of bottling " + k, x.bottling(k, 2), minutes[k]);
        }
    }

    // Promise 24: "NONE if there is none such"
    private static void whatsOfATank() {
        MilkTrain x = Texts.withChurns(10);
        x.pour(0, 3);
        CHECKS.tank("it is", x, 3, 10, 1);
        for (int what : new int[] {-1, 2, 3, Integer.MIN_VALUE, Integer.MAX_VALUE}) {
            CHECKS.due("tank(3, " + what + ")", x.tank(3, what), -1);
        }
    }

    // Promise 25: "NONE if there is none such"
    private static void whatsOfABottling() {
        MilkTrain x = Texts.withChurns(10);
        CHECKS.due("bottling(0, 0) of none", x.bottling(0, 0), -1);
        x.pour(0, 3);
        x.later(7);
        x.bottle(3, 4);
        int[] want = {4, 1, 7};
        for (int what = -2; what < 6; what++) {
            boolean is = what >= 0 && what < want.length;
            CHECKS.due("bottling(0, " + what + ")", x.bottling(0, what), is ? want[what] : -1);
            CHECKS.due("bottling(1, " + what + ")", x.bottling(1, what), -1);
            CHECKS.due("bottling(-1, " + what + ")", x.bottling(-1, what), -1);
        }
        CHECKS.due("bottling(most, 0)", x.bottling(Integer.MAX_VALUE, 0), -1);
        CHECKS.due("bottling(least, 0)", x.bottling(Integer.MIN_VALUE, 0), -1);
    }
}
