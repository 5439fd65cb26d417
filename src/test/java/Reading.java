/** Reads texts with new offices, and checks what becomes of them. */
final class Reading {
    private final Checks checks;

    Reading(Checks counter) {
        checks = counter;
    }

    /** The office that has read the text, so that more can be asked of it. */
    MilkTrain good(String text, int trains) {
        MilkTrain x = new MilkTrain();
        Texts.put(x, text);
        checks.due("timetable of '" + text + "'", x.timetable(), trains);
        checks.due("fault(0) of '" + text + "'", x.fault(0), 0);
        checks.due("fault(1) of '" + text + "'", x.fault(1), -1);
        checks.due("trains of '" + text + "'", x.about(1), trains);
        checks.due("bytes of '" + text + "'", x.about(5), 0);
        return x;
    }

    void bad(String text, int fault, int place) {
        MilkTrain x = new MilkTrain();
        Texts.put(x, text);
        checks.due("timetable of '" + text + "'", x.timetable(), -1);
        checks.due("fault(0) of '" + text + "'", x.fault(0), fault);
        checks.due("fault(1) of '" + text + "'", x.fault(1), place);
        checks.due("fault(2)", x.fault(2), -1);
        checks.due("fault(-1)", x.fault(-1), -1);
        checks.due("trains of '" + text + "'", x.about(1), 0);
        checks.due("bytes of '" + text + "'", x.about(5), text.length());
    }

    /** So many trains, a to i, each of the shortest form. */
    static String trains(int count) {
        StringBuilder text = new StringBuilder();
        for (int i = 0; i < count; i++) {
            text.append("train ").append((char) ('a' + i)).append(" carries 0:1 at 0,0 at 1439;");
        }
        return text.toString();
    }

    /** One train of so many stops: 0 at 0, 1 at 1, and so on. */
    static String stops(int count) {
        StringBuilder text = new StringBuilder("train a carries 1:");
        for (int i = 0; i < count; i++) {
            text.append(i == 0 ? "" : ",").append(i).append(" at ").append(i);
        }
        return text.append(';').toString();
    }
}
