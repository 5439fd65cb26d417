import java.nio.charset.StandardCharsets;

/** Makes offices, and puts texts on their tapes. */
final class Texts {
    /** Two ways from 3 to the city: train b alone, or train c with a change at 2 to a. */
    static final String THREE = "train a carries 1: 1 at 60, 2 at 90, 0 at 120;\n"
        + "train b carries 2: 2 at 100, 3 at 110, 0 at 190;"
        + "train c carries 3: 3 at 0, 2 at 50;";

    private Texts() {
    }

    /** An office with this timetable; the text must be without a fault. */
    static MilkTrain office(String text) {
        MilkTrain office = new MilkTrain();
        put(office, text);
        if (office.timetable() < 0) {
            throw new IllegalStateException("fault " + office.fault(0) + " at " + office.fault(1) + ": " + text);
        }
        return office;
    }

    /** An office without trains, with churns of farms 0, 1, .. and of these pints. */
    static MilkTrain withChurns(int... pints) {
        MilkTrain office = new MilkTrain();
        for (int farm = 0; farm < pints.length; farm++) {
            office.churn(farm, 1, 0, pints[farm]);
        }
        return office;
    }

    /** Puts a text behind what is on the tape. */
    static void put(MilkTrain office, String text) {
        byte[] bytes = text.getBytes(StandardCharsets.ISO_8859_1);
        int before = office.about(5);
        for (int at = 0; at < bytes.length; at += 20) {
            office.feed(word(bytes, at), word(bytes, at + 4), word(bytes, at + 8), word(bytes, at + 12),
                word(bytes, at + 16));
        }
        office.end(before + bytes.length);
    }

    private static int word(byte[] bytes, int at) {
        int four = 0;
        for (int i = at; i < at + 4; i++) {
            four = four << 8 | (i < bytes.length ? bytes[i] & 255 : ' ');
        }
        return four;
    }
}
