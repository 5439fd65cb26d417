/** Promises 4 and 5: timetable, fault. */
final class TimetableTest {
    private static final Checks CHECKS = new Checks();
    private static final Reading READING = new Reading(CHECKS);
    private static final String HEAD = "train a carries 1:";
    private static final String WHOLE = "train a carries 1:1 at 5,0 at 6;";

    public static void main(String[] args) {
        goodTexts();
        noTokens();
        misplaced();
        toldAlready();
        badNumbers();
        leastAtOnePlace();
        allStaysAtAFault();
        successStartsAnew();
        CHECKS.end();
    }

    private static void goodTexts() {
        READING.good("", 0);
        READING.good(" \n ", 0);
        READING.good(WHOLE, 1);
        READING.good("train a carries1:1 at5,0 at6;", 1);
        READING.good("\n train \n abcdefgh carries99 : 9\nat 0000 , 0 at1439 ; ", 1);
        READING.good("train trains carries 0001:0001 at 5,0000 at 0006;", 1);
        READING.good(Reading.trains(8), 8);
        READING.good(Reading.stops(2), 1);
        READING.good(Reading.stops(8), 1);
    }

    private static void noTokens() {
        READING.bad("?", 1, 0);
        READING.bad(" A", 1, 1);
        READING.bad("train a carries 1:1 at 5,0 at 6; .", 1, 33);
        READING.bad("train\ta", 1, 5);
        READING.bad("train abcdefghi carries 1:1 at 5,0 at 6;", 1, 6);
        READING.bad("train a carries 00001:1 at 5,0 at 6;", 1, 16);
        READING.bad(HEAD + "1at 5,0 at 6;", 1, 18);
        READING.bad(HEAD + "1 at 5x,0 at 6;", 1, 23);
        READING.bad(HEAD + "1 at 5X,0 at 6;", 1, 24);
        READING.bad(HEAD + "1 at \u00e9", 1, 23);
        READING.bad("tra\r", 2, 0);
    }

    private static void misplaced() {
        READING.bad("a", 2, 0);
        READING.bad("1", 2, 0);
        READING.bad("trai n", 2, 0);
        READING.bad("traina", 2, 0);
        READING.bad("train", 2, 5);
        READING.bad("train  ", 2, 7);
        READING.bad("train at carries 1:", 2, 6);
        READING.bad("train carries carries 1:", 2, 6);
        READING.bad("train train carries 1:", 2, 6);
        READING.bad("train 1", 2, 6);
        READING.bad("train a a", 2, 8);
        READING.bad("train a carries :", 2, 16);
        READING.bad("train a carries 1 1", 2, 18);
        READING.bad("train a carries 1;", 2, 17);
        READING.bad(HEAD, 2, 18);
        READING.bad(HEAD + ";", 2, 18);
        READING.bad(HEAD + "at", 2, 18);
        READING.bad(HEAD + "1 a", 2, 20);
        READING.bad(HEAD + "1 at at", 2, 23);
        READING.bad(HEAD + "1 at 5;", 2, 24);
        READING.bad(HEAD + "1 at 5:", 2, 24);
        READING.bad(HEAD + "1 at 5,0 at 6", 2, 31);
        READING.bad(HEAD + "1 at 5,0 at 6  ", 2, 33);
        READING.bad(HEAD + "1 at 5,0 at 6,;", 2, 32);
        READING.bad(WHOLE + ";", 2, 32);
        READING.bad(WHOLE + "trains", 2, 32);
        READING.bad(Reading.trains(8) + " train", 2, Reading.trains(8).length() + 1);
        READING.bad(Reading.trains(8) + " x", 2, Reading.trains(8).length() + 1);
        READING.bad(Reading.trains(8) + " !", 1, Reading.trains(8).length() + 1);
        READING.bad(Reading.stops(9), 2, Reading.stops(8).length());
        READING.bad(Reading.stops(8).replace(";", ",;"), 2, Reading.stops(8).length());
        READING.bad(Reading.stops(8).replace(";", ",0 at 0"), 2, Reading.stops(8).length());
        READING.bad(Reading.stops(8).replace(";", ",77 at 0"), 2, Reading.stops(8).length());
        READING.bad(Reading.stops(8).replace(";", ",7a"), 1, Reading.stops(8).length());
    }

    private static void toldAlready() {
        READING.bad(WHOLE + "train a carries", 3, 38);
        READING.bad(WHOLE + "train aa carries 1:1 at 5,0 at 6;train a", 3, 71);
        READING.bad(HEAD + "1 at 5,1 at 6;", 3, 25);
        READING.bad(HEAD + "1 at 5,0 at 6,0001 at 7;", 3, 32);
        READING.good(WHOLE + "train b carries 1:1 at 5,0 at 6;", 2);
    }

    private static void badNumbers() {
        READING.bad("train a carries 100:", 4, 16);
        READING.bad("train a carries 9999", 4, 16);
        READING.bad(HEAD + "10 at 5", 4, 18);
        READING.bad(HEAD + "1 at 1440", 4, 23);
        READING.bad(HEAD + "1 at 5,0 at 5;", 4, 30);
        READING.bad(HEAD + "1 at 5,0 at 4;", 4, 30);
        READING.bad(HEAD + "1 at 5,0 at 9999;", 4, 30);
        READING.bad(HEAD + "1 at 5,2 at 9,0 at 8;", 4, 37);
    }

    private static void leastAtOnePlace() {
        READING.bad("train a carries 100x", 1, 16);
        READING.bad("train a carries 100 x", 4, 16);
        READING.bad(HEAD + "1 at 5,0 at 4?", 4, 30);
        READING.bad("100", 2, 0);
    }

    private static void allStaysAtAFault() {
        MilkTrain x = Texts.office(Texts.THREE);
        x.delay(1, 7);
        Texts.put(x, "train z carries 9:1 at 5,0 at 6;train z");
        CHECKS.due("timetable with a fault", x.timetable(), -1);
        CHECKS.due("trains as they were", x.about(1), 3);
        CHECKS.due("carries as it was", x.train(0, 0), 1);
        CHECKS.due("stops as they were", x.train(0, 1), 3);
        CHECKS.due("delay as it was", x.train(1, 2), 7);
        CHECKS.due("bytes as they were", x.about(5), 39);
        CHECKS.due("timetable again", x.timetable(), -1);
        CHECKS.due("its fault", x.fault(0), 3);
        x.end(32);
        CHECKS.due("timetable, cut", x.timetable(), 1);
        CHECKS.due("carries anew", x.train(0, 0), 9);
    }

    private static void successStartsAnew() {
        MilkTrain x = Texts.office(Texts.THREE);
        x.delay(0, 30);
        for (int i = 0; i < 3; i++) {
            Texts.put(x, Texts.THREE);
            CHECKS.due("timetable once more", x.timetable(), 3);
            CHECKS.due("no delay then", x.train(0, 2), 0);
            CHECKS.due("no delay in the minute", x.train(0, 20), 60);
            x.delay(0, 30);
        }
        CHECKS.due("timetable of an empty tape", x.timetable(), 0);
        CHECKS.due("no train", x.train(0, 0), -1);
        Texts.put(x, "?");
        x.timetable();
        CHECKS.due("fault", x.fault(0), 1);
        x.end(0);
        x.timetable();
        CHECKS.due("no fault then", x.fault(0), 0);
        CHECKS.due("no place then", x.fault(1), -1);
    }
}
