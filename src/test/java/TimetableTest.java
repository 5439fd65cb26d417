/** Promises 4 and 5: timetable, fault. */
final class TimetableTest {
    private static final Checks CHECKS = new Checks();
    private static final String HEAD = "train a carries 1:";
    private static final String WHOLE = "train a carries 1:1 at 5,0 at 6;";

    public static void main(String[] args) {
        goodTexts();
        noTokens();
        misplaced();
        toldAlready();
        badNumbers();
        leastAtOnePlace();
        allStaysAtAFault();
        successStartsAnew();
        CHECKS.end();
    }

    private static void good(String text, int trains) {
        MilkTrain x = new MilkTrain();
        Texts.put(x, text);
        CHECKS.due("timetable of '" + text + "'", x.timetable(), trains);
        CHECKS.due("fault(0) of '" + text + "'", x.fault(0), 0);
        CHECKS.due("fault(1) of '" + text + "'", x.fault(1), -1);
        CHECKS.due("trains of '" + text + "'", x.about(1), trains);
        CHECKS.due("bytes of '" + text + "'", x.about(5), 0);
    }

    private static void bad(String text, int fault, int place) {
        MilkTrain x = new MilkTrain();
        Texts.put(x, text);
        CHECKS.due("timetable of '" + text + "'", x.timetable(), -1);
        CHECKS.due("fault(0) of '" + text + "'", x.fault(0), fault);
        CHECKS.due("fault(1) of '" + text + "'", x.fault(1), place);
        CHECKS.due("fault(2)", x.fault(2), -1);
        CHECKS.due("fault(-1)", x.fault(-1), -1);
        CHECKS.due("trains of '" + text + "'", x.about(1), 0);
        CHECKS.due("bytes of '" + text + "'", x.about(5), text.length());
    }

    private static String trains(int count) {
        StringBuilder text = new StringBuilder();
        for (int i = 0; i < count; i++) {
            text.append("train ").append((char) ('a' + i)).append(" carries 0:1 at 0,0 at 1439;");
        }
        return text.toString();
    }

    private static String stops(int count) {
        StringBuilder text = new StringBuilder(HEAD);
        for (int i = 0; i < count; i++) {
            text.append(i == 0 ? "" : ",").append(i).append(" at ").append(i);
        }
        return text.append(';').toString();
    }

    private static void goodTexts() {
        good("", 0);
        good(" \n ", 0);
        good(WHOLE, 1);
        good("train a carries1:1 at5,0 at6;", 1);
        good("\n train \n abcdefgh carries99 : 9\nat 0000 , 0 at1439 ; ", 1);
        good("train trains carries 0001:0001 at 5,0000 at 0006;", 1);
        good(trains(8), 8);
        good(stops(2), 1);
        good(stops(8), 1);
    }

    private static void noTokens() {
        bad("?", 1, 0);
        bad(" A", 1, 1);
        bad("train a carries 1:1 at 5,0 at 6; .", 1, 33);
        bad("train\ta", 1, 5);
        bad("train abcdefghi carries 1:1 at 5,0 at 6;", 1, 6);
        bad("train a carries 00001:1 at 5,0 at 6;", 1, 16);
        bad(HEAD + "1at 5,0 at 6;", 1, 18);
        bad(HEAD + "1 at 5x,0 at 6;", 1, 23);
        bad(HEAD + "1 at 5X,0 at 6;", 1, 24);
        bad(HEAD + "1 at \u00e9", 1, 23);
        bad("tra\r", 2, 0);
    }

    private static void misplaced() {
        bad("a", 2, 0);
        bad("1", 2, 0);
        bad("trai n", 2, 0);
        bad("traina", 2, 0);
        bad("train", 2, 5);
        bad("train  ", 2, 7);
        bad("train at carries 1:", 2, 6);
        bad("train carries carries 1:", 2, 6);
        bad("train train carries 1:", 2, 6);
        bad("train 1", 2, 6);
        bad("train a a", 2, 8);
        bad("train a carries :", 2, 16);
        bad("train a carries 1 1", 2, 18);
        bad("train a carries 1;", 2, 17);
        bad(HEAD, 2, 18);
        bad(HEAD + ";", 2, 18);
        bad(HEAD + "at", 2, 18);
        bad(HEAD + "1 a", 2, 20);
        bad(HEAD + "1 at at", 2, 23);
        bad(HEAD + "1 at 5;", 2, 24);
        bad(HEAD + "1 at 5:", 2, 24);
        bad(HEAD + "1 at 5,0 at 6", 2, 31);
        bad(HEAD + "1 at 5,0 at 6  ", 2, 33);
        bad(HEAD + "1 at 5,0 at 6,;", 2, 32);
        bad(WHOLE + ";", 2, 32);
        bad(WHOLE + "trains", 2, 32);
        bad(trains(8) + " train", 2, trains(8).length() + 1);
        bad(trains(8) + " x", 2, trains(8).length() + 1);
        bad(trains(8) + " !", 1, trains(8).length() + 1);
        bad(stops(9), 2, stops(8).length());
        bad(stops(8).replace(";", ",;"), 2, stops(8).length());
        bad(stops(8).replace(";", ",0 at 0"), 2, stops(8).length());
        bad(stops(8).replace(";", ",77 at 0"), 2, stops(8).length());
        bad(stops(8).replace(";", ",7a"), 1, stops(8).length());
    }

    private static void toldAlready() {
        bad(WHOLE + "train a carries", 3, 38);
        bad(WHOLE + "train aa carries 1:1 at 5,0 at 6;train a", 3, 71);
        bad(HEAD + "1 at 5,1 at 6;", 3, 25);
        bad(HEAD + "1 at 5,0 at 6,0001 at 7;", 3, 32);
        good(WHOLE + "train b carries 1:1 at 5,0 at 6;", 2);
    }

    private static void badNumbers() {
        bad("train a carries 100:", 4, 16);
        bad("train a carries 9999", 4, 16);
        bad(HEAD + "10 at 5", 4, 18);
        bad(HEAD + "1 at 1440", 4, 23);
        bad(HEAD + "1 at 5,0 at 5;", 4, 30);
        bad(HEAD + "1 at 5,0 at 4;", 4, 30);
        bad(HEAD + "1 at 5,0 at 9999;", 4, 30);
        bad(HEAD + "1 at 5,2 at 9,0 at 8;", 4, 37);
    }

    private static void leastAtOnePlace() {
        bad("train a carries 100x", 1, 16);
        bad("train a carries 100 x", 4, 16);
        bad(HEAD + "1 at 5,0 at 4?", 4, 30);
        bad("100", 2, 0);
    }

    private static void allStaysAtAFault() {
        MilkTrain x = Texts.office(Texts.THREE);
        x.delay(1, 7);
        Texts.put(x, "train z carries 9:1 at 5,0 at 6;train z");
        CHECKS.due("timetable with a fault", x.timetable(), -1);
        CHECKS.due("trains as they were", x.about(1), 3);
        CHECKS.due("carries as it was", x.train(0, 0), 1);
        CHECKS.due("stops as they were", x.train(0, 1), 3);
        CHECKS.due("delay as it was", x.train(1, 2), 7);
        CHECKS.due("bytes as they were", x.about(5), 39);
        CHECKS.due("timetable again", x.timetable(), -1);
        CHECKS.due("its fault", x.fault(0), 3);
        x.end(32);
        CHECKS.due("timetable, cut", x.timetable(), 1);
        CHECKS.due("carries anew", x.train(0, 0), 9);
    }

    private static void successStartsAnew() {
        MilkTrain x = Texts.office(Texts.THREE);
        x.delay(0, 30);
        for (int i = 0; i < 3; i++) {
            Texts.put(x, Texts.THREE);
            CHECKS.due("timetable once more", x.timetable(), 3);
            CHECKS.due("no delay then", x.train(0, 2), 0);
            CHECKS.due("no delay in the minute", x.train(0, 20), 60);
            x.delay(0, 30);
        }
        CHECKS.due("timetable of an empty tape", x.timetable(), 0);
        CHECKS.due("no train", x.train(0, 0), -1);
        Texts.put(x, "?");
        x.timetable();
        CHECKS.due("fault", x.fault(0), 1);
        x.end(0);
        x.timetable();
        CHECKS.due("no fault then", x.fault(0), 0);
        CHECKS.due("no place then", x.fault(1), -1);
    }
}
