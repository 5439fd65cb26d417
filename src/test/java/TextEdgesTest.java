/**
 * The edges of the timetable's text and of promises 2 to 5: one method for each sentence of the
 * document that names one; the sentence stands above it.
 */
final class TextEdgesTest {
    private static final Checks CHECKS = new Checks();
    private static final Reading READING = new Reading(CHECKS);
    private static final String HEAD = "train a carries 1:";
    private static final String WHOLE = "train a carries 1:1 at 5,0 at 6;";

    public static void main(String[] args) {
        atMost1000Bytes();
        noTrainOrSome();
        twoStopsAtLeast();
        stationsZeroToNine();
        minutesZeroTo1439();
        carriesZeroTo99();
        eachByteByItself();
        eachByteBehindAWord();
        eachByteBehindANumber();
        wordsOfOneToEight();
        numbersOfOneToFour();
        blanksPartThemOrNot();
        asLongAsCanBe();
        noLetterBehindANumber();
        noNames();
        atMostEightTrains();
        atMostEightStops();
        minutesGoUp();
        noStationTwice();
        aNameIsToldOnce();
        theFirstFaultByPlace();
        theLeastAtOnePlace();
        theEndIsTheTextsLength();
        feeding();
        ending();
        theTapeIsEmptyThen();
        noDelaysThen();
        allStaysAtAFault();
        faultOfTheLatest();
        CHECKS.end();
    }

    /** WHOLE with blanks ahead of its last sign, so that it has so many bytes. */
    private static String stretched(int bytes) {
        return WHOLE.substring(0, WHOLE.length() - 1) + " ".repeat(bytes - WHOLE.length()) + ";";
    }

    // "The TIMETABLE is a text of at most 1,000 bytes"
    private static void atMost1000Bytes() {
        READING.good(stretched(999), 1);
        READING.good(stretched(1000), 1);
        READING.bad(stretched(999) + "?", 1, 999);
        READING.bad(stretched(1000).replace(';', ' '), 2, 1000);
    }

    // "timetable = {train}"
    private static void noTrainOrSome() {
        READING.good("", 0);
        READING.good("\n", 0);
        READING.good(Reading.trains(1), 1);
        READING.good(Reading.trains(2), 2);
    }

    // "train = train NAME carries N : stop , stop {, stop} ;"
    private static void twoStopsAtLeast() {
        READING.bad(HEAD + ";", 2, 18);
        READING.bad(HEAD + "1 at 5;", 2, 24);
        CHECKS.due("two stops", READING.good(Reading.stops(2), 1).train(0, 1), 2);
        CHECKS.due("three stops", READING.good(Reading.stops(3), 1).train(0, 1), 3);
    }

    // "S 0 .. 9 (0 is the CITY)"
    private static void stationsZeroToNine() {
        MilkTrain x = READING.good(HEAD + "0 at 0,9 at 1;", 1);
        CHECKS.due("station 0", x.train(0, 10), 0);
        CHECKS.due("station 9", x.train(0, 11), 9);
        READING.bad(HEAD + "10 at 0,0 at 1;", 4, 18);
        READING.bad(HEAD + "1 at 0,10 at 1;", 4, 25);
        READING.bad(HEAD + "1 at 0,9999 at 1;", 4, 25);
    }

    // "M 0 .. 1439"
    private static void minutesZeroTo1439() {
        MilkTrain x = READING.good(HEAD + "1 at 0,0 at 1439;", 1);
        CHECKS.due("minute 0", x.train(0, 20), 0);
        CHECKS.due("minute 1439", x.train(0, 21), 1439);
        READING.bad(HEAD + "1 at 1440,0 at 1441;", 4, 23);
        READING.bad(HEAD + "1 at 0,0 at 1440;", 4, 30);
        READING.bad(HEAD + "1 at 0,0 at 9999;", 4, 30);
    }

    // "N 0 .. 99"
    private static void carriesZeroTo99() {
        CHECKS.due("carries 0", READING.good("train a carries 0:1 at 5,0 at 6;", 1).train(0, 0), 0);
        CHECKS.due("carries 99", READING.good("train a carries 99:1 at 5,0 at 6;", 1).train(0, 0), 99);
        READING.bad("train a carries 100:1 at 5,0 at 6;", 4, 16);
        READING.bad("train a carries 9999:1 at 5,0 at 6;", 4, 16);
    }

    private static boolean isLetter(char c) {
        return "abcdefghijklmnopqrstuvwxyz".indexOf(c) >= 0;
    }

    private static boolean isDigit(char c) {
        return "0123456789".indexOf(c) >= 0;
    }

    private static boolean isBlank(char c) {
        return c == 32 || c == 10;
    }

    private static boolean isSign(char c) {
        return c == ':' || c == ',' || c == ';';
    }

    // "TOKENS: words (a .. z, ..), N (.. digits), signs : , ;; blanks (32, 10)"; "1 no TOKEN"
    private static void eachByteByItself() {
        for (char c = 0; c < 256; c++) {
            if (isBlank(c)) {
                READING.good("" + c, 0);
            } else {
                READING.bad("" + c, isLetter(c) || isDigit(c) || isSign(c) ? 2 : 1, 0);
            }
        }
    }

    private static void eachByteBehindAWord() {
        for (char c = 0; c < 256; c++) {
            if (isLetter(c) || isBlank(c)) {
                READING.bad("train b" + c, 2, 8);
            } else {
                READING.bad("train b" + c, isDigit(c) || isSign(c) ? 2 : 1, 7);
            }
        }
    }

    private static void eachByteBehindANumber() {
        for (char c = 0; c < 256; c++) {
            if (isDigit(c) || isBlank(c) || c == ':') {
                READING.bad("train a carries 1" + c, 2, 18);
            } else if (isLetter(c)) {
                READING.bad("train a carries 1" + c, 1, 16);
            } else {
                READING.bad("train a carries 1" + c, isSign(c) ? 2 : 1, 17);
            }
        }
    }

    // "words (a .. z, 8 at most)"
    private static void wordsOfOneToEight() {
        READING.good(WHOLE.replace("train a", "train z"), 1);
        READING.good(WHOLE.replace("train a", "train zzzzzzz"), 1);
        READING.good(WHOLE.replace("train a", "train azazazaz"), 1);
        READING.bad(WHOLE.replace("train a", "train azazazaza"), 1, 6);
        READING.bad("trainxxx", 2, 0);
        READING.bad("trainxxxx", 1, 0);
        READING.bad("train " + "a".repeat(994), 1, 6);
    }

    // "N (1 to 4 digits)"
    private static void numbersOfOneToFour() {
        MilkTrain x = READING.good("train a carries 0099:0009 at 0000,0000 at 1439;", 1);
        CHECKS.due("0099", x.train(0, 0), 99);
        CHECKS.due("0009", x.train(0, 10), 9);
        CHECKS.due("0000", x.train(0, 20), 0);
        READING.bad("train a carries 00099:", 1, 16);
        READING.bad(HEAD + "00001 at 5,0 at 6;", 1, 18);
        READING.bad(HEAD + "1 at 00005,0 at 6;", 1, 23);
        // As many digits as wrap around an int, so that what is left of them would be 1.
        READING.bad("train a carries 4294967297:1 at 5,0 at 6;", 1, 16);
        READING.bad("train a carries " + "1".repeat(984), 1, 16);
    }

    // "blanks (32, 10) part them or not"
    private static void blanksPartThemOrNot() {
        READING.good("train a carries1:1 at5,0 at6;train b carries1:1 at5,0 at6;", 2);
        READING.good("\ntrain\na\ncarries\n1\n:\n1\nat\n5\n,\n0\nat\n6\n;\n", 1);
        READING.good("  train  a  carries  1  :  1  at  5  ,  0  at  6  ;  ", 1);
        READING.bad("tra in a carries 1:1 at 5,0 at 6;", 2, 0);
        READING.bad("train a carries 1 0:1 at 5,0 at 6;", 2, 18);
    }

    // "each is as long as can be"
    private static void asLongAsCanBe() {
        READING.bad("traina carries 1:1 at 5,0 at 6;", 2, 0);
        READING.bad("train acarries 1:1 at 5,0 at 6;", 2, 15);
        CHECKS.due("carries 12", READING.good("train a carries12:1 at 5,0 at 6;", 1).train(0, 0), 12);
        CHECKS.due("at 1234", READING.good(HEAD + "1 at 5,0 at1234;", 1).train(0, 21), 1234);
    }

    // "no letter directly behind an N"
    private static void noLetterBehindANumber() {
        READING.bad(HEAD + "1at 5,0 at 6;", 1, 18);
        READING.bad(HEAD + "1 at 5,0at 6;", 1, 25);
        READING.bad(HEAD + "1 at 5,0 at 6z;", 1, 30);
        READING.good(HEAD + "1 at 5,0\nat 6;", 1);
        READING.bad("train a carries 9999z", 1, 16);
        READING.bad("train a carries 9999 z", 4, 16);
    }

    // "train carries at are no NAMES"
    private static void noNames() {
        for (String word : new String[] {"train", "carries", "at"}) {
            READING.bad(WHOLE.replace("train a", "train " + word), 2, 6);
        }
        for (String word : new String[] {"trai", "rain", "trains", "atrain", "carrie", "arries", "carriess", "acarries",
            "a", "t", "att", "aat"}) {
            READING.good(WHOLE.replace("train a", "train " + word), 1);
        }
    }

    // "At most 8 trains"; "a 9th train: at its word train"
    private static void atMostEightTrains() {
        READING.good(Reading.trains(7), 7);
        MilkTrain x = READING.good(Reading.trains(8), 8);
        CHECKS.due("train(7, 1)", x.train(7, 1), 2);
        CHECKS.due("train(8, 1)", x.train(8, 1), -1);
        int eight = Reading.trains(8).length();
        READING.bad(Reading.trains(9), 2, eight);
        READING.bad(Reading.trains(8) + "\ntrain", 2, eight + 1);
        READING.bad(Reading.trains(8) + "train a", 2, eight);
    }

    // "8 stops each"; "a 9th stop: at its S"
    private static void atMostEightStops() {
        READING.good(Reading.stops(7), 1);
        MilkTrain x = READING.good(Reading.stops(8), 1);
        CHECKS.due("train(0, 1)", x.train(0, 1), 8);
        CHECKS.due("train(0, 17)", x.train(0, 17), 7);
        CHECKS.due("train(0, 27)", x.train(0, 27), 7);
        READING.bad(Reading.stops(9), 2, Reading.stops(8).length());
        READING.bad(Reading.stops(10), 2, Reading.stops(8).length());
        READING.good(Reading.stops(8) + Reading.stops(8).replace("train a", "train b"), 2);
    }

    // "the M of a train's stops go up, each above the one ahead"; "4 .. (an M that is not above the one ahead, too)"
    private static void minutesGoUp() {
        READING.good(HEAD + "1 at 0,0 at 1;", 1);
        READING.bad(HEAD + "1 at 0,0 at 0;", 4, 30);
        READING.good(HEAD + "1 at 1438,0 at 1439;", 1);
        READING.bad(HEAD + "1 at 1439,0 at 1439;", 4, 33);
        READING.bad(HEAD + "1 at 6,0 at 5;", 4, 30);
        READING.bad(HEAD + "1 at 5,2 at 7,0 at 7;", 4, 37);
        READING.bad(HEAD + "1 at 5,2 at 7,0 at 6;", 4, 37);
        READING.good(HEAD + "1 at 5,2 at 7,0 at 8;", 1);
        READING.good(HEAD + "1 at 5,0 at 6;train b carries 1:1 at 0,0 at 1;", 2);
    }

    // "no S twice in one train"; "3 .. an S that the train has already"
    private static void noStationTwice() {
        READING.bad(HEAD + "1 at 5,1 at 6;", 3, 25);
        READING.bad(HEAD + "0 at 5,0 at 6;", 3, 25);
        READING.bad(HEAD + "9 at 5,0 at 6,9 at 7;", 3, 32);
        String eight = Reading.stops(7).replace(";", ",0 at 7;");
        READING.bad(eight, 3, eight.length() - "0 at 7;".length());
        READING.good(WHOLE + "train b carries 1:1 at 5,0 at 6;", 2);
    }

    // "A NAME is told once"; "3 a NAME told already"
    private static void aNameIsToldOnce() {
        READING.bad(WHOLE + WHOLE, 3, 38);
        READING.bad(Reading.trains(7) + "train g", 3, Reading.trains(7).length() + 6);
        READING.bad(Reading.trains(7) + "train a", 3, Reading.trains(7).length() + 6);
        READING.good(WHOLE + WHOLE.replace("train a", "train aa"), 2);
        String eight = WHOLE.replace("train a", "train abcdefgh");
        READING.bad(eight + eight, 3, eight.length() + 6);
        READING.good(eight + eight.replace("abcdefgh", "abcdefgi"), 2);
        READING.good(eight + eight.replace("abcdefgh", "zbcdefgh"), 2);
        READING.good(eight + eight.replace("abcdefgh", "abcdefg"), 2);
        MilkTrain x = READING.good(WHOLE, 1);
        Texts.put(x, WHOLE);
        CHECKS.due("a name of the timetable ahead", x.timetable(), 1);
    }

    // "FAULTS, the first by its place (bytes from 0 ..)"
    private static void theFirstFaultByPlace() {
        READING.bad("train a carries 100 ?", 4, 16);
        READING.bad("? train a carries 100", 1, 0);
        READING.bad(WHOLE + "train a ?", 3, 38);
        READING.bad(WHOLE + "train ? a", 1, 38);
        READING.bad(HEAD + "1 at 1440;", 4, 23);
        READING.bad(HEAD + "1 at 5;10", 2, 24);
        READING.bad(HEAD + "1 at 5,1 at 5;", 3, 25);
        READING.bad(HEAD + "10 at 5,10 at 4;", 4, 18);
    }

    // "at one place the least"
    private static void theLeastAtOnePlace() {
        int ninth = Reading.stops(8).length();
        String open = Reading.stops(8).replace(';', ',');
        READING.bad(open + "7 at 9;", 2, ninth);
        READING.bad(open + "10 at 9;", 2, ninth);
        READING.bad(open + "7x", 1, ninth);
        READING.bad(open + "?", 1, ninth);
        READING.bad("train a carries 100x", 1, 16);
        READING.bad("train a carries 10000", 1, 16);
        READING.bad("10000", 1, 0);
        READING.bad("1440", 2, 0);
        READING.bad(Reading.trains(8) + "traintrain", 1, Reading.trains(8).length());
    }

    // "the end: the text's length"
    private static void theEndIsTheTextsLength() {
        String[] cut = {"train", "train a", "train a carries", "train a carries 1", HEAD, HEAD + "1", HEAD + "1 at",
            HEAD + "1 at 5", HEAD + "1 at 5,", HEAD + "1 at 5,0 at 6", WHOLE + "train"};
        for (String text : cut) {
            READING.bad(text, 2, text.length());
            READING.bad(text + " \n", 2, text.length() + 2);
        }
    }

    // Promise 2: "how many there are; NONE, and nothing comes, if there would be more than 1,000"
    private static void feeding() {
        for (int before : new int[] {0, 1, 19, 20, 979, 980, 981, 999, 1000}) {
            MilkTrain x = new MilkTrain();
            Texts.put(x, stretched(1000));
            x.end(before);
            boolean room = before <= 980;
            CHECKS.due("feed behind " + before, x.feed(-1, -1, -1, -1, -1), room ? before + 20 : -1);
            CHECKS.due("bytes behind " + before, x.about(5), room ? before + 20 : before);
        }
        MilkTrain full = new MilkTrain();
        Texts.put(full, stretched(1000));
        full.feed(-1, -1, -1, -1, -1);
        CHECKS.due("nothing came", full.timetable(), 1);
        MilkTrain nearly = new MilkTrain();
        Texts.put(nearly, stretched(981));
        nearly.feed(-1, -1, -1, -1, -1);
        CHECKS.due("nothing came behind 981", nearly.timetable(), 1);
    }

    // Promise 3: "NONE, doing nothing, if it has not so many, or n is below 0"
    private static void ending() {
        MilkTrain x = new MilkTrain();
        CHECKS.due("end(1) of an empty tape", x.end(1), -1);
        CHECKS.due("end(-1) of an empty tape", x.end(-1), -1);
        CHECKS.due("end(0) of an empty tape", x.end(0), 0);
        Texts.put(x, stretched(1000));
        CHECKS.due("end(1001)", x.end(1001), -1);
        CHECKS.due("end(-1)", x.end(-1), -1);
        CHECKS.due("end(1000)", x.end(1000), 1000);
        CHECKS.due("all read", x.timetable(), 1);
        Texts.put(x, WHOLE + "?");
        CHECKS.due("end of one less", x.end(WHOLE.length()), WHOLE.length());
        CHECKS.due("end of what has gone", x.end(WHOLE.length() + 1), -1);
        CHECKS.due("read without it", x.timetable(), 1);
        Texts.put(x, "?");
        CHECKS.due("end(0)", x.end(0), 0);
        CHECKS.due("bytes", x.about(5), 0);
        CHECKS.due("nothing read", x.timetable(), 0);
    }

    // Promise 4: "The TAPE (empty then) is the TIMETABLE"
    private static void theTapeIsEmptyThen() {
        MilkTrain x = READING.good(Reading.trains(8), 8);
        CHECKS.due("end(1)", x.end(1), -1);
        CHECKS.due("feed", x.feed(0x20202020, 0x20202020, 0x20202020, 0x20202020, 0x20202020), 20);
        CHECKS.due("a timetable of no trains", x.timetable(), 0);
        CHECKS.due("about(1)", x.about(1), 0);
        CHECKS.due("train(0, 0)", x.train(0, 0), -1);
        Texts.put(x, WHOLE);
        CHECKS.due("one train after eight", x.timetable(), 1);
        CHECKS.due("train(1, 0)", x.train(1, 0), -1);
    }

    // Promise 4: "(no DELAYS)"
    private static void noDelaysThen() {
        MilkTrain x = READING.good(Reading.trains(8), 8);
        x.delay(0, 300);
        x.delay(7, 1);
        // Twice, as an object may keep the timetable ahead of the present one.
        for (int round = 0; round < 2; round++) {
            Texts.put(x, Reading.trains(8));
            x.timetable();
            for (int train = 0; train < 8; train++) {
                CHECKS.due("delay of " + train, x.train(train, 2), 0);
                CHECKS.due("minute of " + train, x.train(train, 20), 0);
            }
        }
    }

    // Promise 4: "NONE: a FAULT (all stays)"
    private static void allStaysAtAFault() {
        MilkTrain x = READING.good(Reading.trains(8), 8);
        x.delay(7, 300);
        String text = WHOLE.replace("carries 1", "carries 77") + "?";
        Texts.put(x, text);
        CHECKS.due("timetable", x.timetable(), -1);
        CHECKS.due("about(1)", x.about(1), 8);
        CHECKS.due("train(0, 0)", x.train(0, 0), 0);
        CHECKS.due("train(7, 2)", x.train(7, 2), 300);
        CHECKS.due("bytes", x.about(5), text.length());
        CHECKS.due("timetable once more", x.timetable(), -1);
        CHECKS.due("end", x.end(text.length() - 1), text.length() - 1);
        CHECKS.due("timetable without the fault", x.timetable(), 1);
        CHECKS.due("train(0, 0) of the new one", x.train(0, 0), 77);
        CHECKS.due("train(0, 2) of the new one", x.train(0, 2), 0);
    }

    // Promise 5: "Of the latest timetable() what 0: its FAULT (0), 1: its place (NONE). NONE for another what."
    private static void faultOfTheLatest() {
        MilkTrain x = new MilkTrain();
        fault("of none yet", x, 0, -1);
        Texts.put(x, WHOLE + "train a");
        fault("not read yet", x, 0, -1);
        x.timetable();
        fault("told already", x, 3, 38);
        x.end(WHOLE.length());
        x.feed(-1, 0, 0, 0, 0);
        fault("until the next one", x, 3, 38);
        x.timetable();
        fault("no token", x, 1, WHOLE.length());
        x.end(WHOLE.length());
        x.timetable();
        fault("none", x, 0, -1);
        CHECKS.due("fault(most)", x.fault(Integer.MAX_VALUE), -1);
        CHECKS.due("fault(least)", x.fault(Integer.MIN_VALUE), -1);
    }

    private static void fault(String call, MilkTrain x, int kind, int place) {
        CHECKS.due(call + ": fault(0)", x.fault(0), kind);
        CHECKS.due(call + ": fault(1)", x.fault(1), place);
        CHECKS.due(call + ": fault(-1)", x.fault(-1), -1);
        CHECKS.due(call + ": fault(2)", x.fault(2), -1);
    }
}
