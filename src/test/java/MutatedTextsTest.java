import java.util.ArrayList;
import java.util.List;
import java.util.Random;
import java.util.regex.Matcher;
import java.util.regex.Pattern;

/** Promises 4 and 5 again: texts changed by chance (from a seed), against another way of reading them. */
final class MutatedTextsTest {
    private static final Checks CHECKS = new Checks();
    private static final Pattern RUNS = Pattern.compile("[ \n]*([a-z]+|[0-9]+(?=([a-z])?)|[^ \n])");
    private static final String[] PIECES = {"train", "carries", "at", "a", "b", "abcdefgh", "abcdefghi", "0", "1", "9",
        "10", "99", "100", "1439", "1440", "0001", "00001", ":", ",", ";", " ", "\n", "?", "A", "\u00ff", "5x"};

    private final List<String> tokens = new ArrayList<>();
    private final List<Integer> places = new ArrayList<>();
    private int trains = 0;

    public static void main(String[] args) {
        Random random = new Random(4);
        for (int round = 0; round < 30000; round++) {
            String text = mutated(random, wholeText(random));
            check(text.substring(0, Math.min(1000, text.length())));
        }
        CHECKS.end();
    }

    private static void check(String text) {
        MilkTrain x = new MilkTrain();
        Texts.put(x, text);
        MutatedTextsTest model = new MutatedTextsTest();
        int[] fault = model.read(text);
        CHECKS.due("timetable of '" + text + "'", x.timetable(), fault[0] == 0 ? model.trains : -1);
        CHECKS.due("fault(0) of '" + text + "'", x.fault(0), fault[0]);
        CHECKS.due("fault(1) of '" + text + "'", x.fault(1), fault[1]);
    }

    private static String wholeText(Random random) {
        StringBuilder text = new StringBuilder();
        int count = random.nextInt(10);
        for (int t = 0; t < count; t++) {
            text.append("train ").append(random.nextInt(20) == 0 ? "q" : "n".repeat(t % 8) + (char) ('b' + t))
                .append(" carries ").append(random.nextInt(101)).append(':');
            int stops = 2 + random.nextInt(random.nextInt(10) == 0 ? 8 : 4);
            int minute = random.nextInt(100);
            for (int k = 0; k < stops; k++) {
                int station = random.nextInt(30) == 0 ? random.nextInt(12) : k;
                text.append(k == 0 ? "" : ",").append(station).append(" at ").append(minute);
                minute += random.nextInt(30) == 0 ? 0 : 1 + random.nextInt(150);
            }
            text.append(";\n");
        }
        return text.toString();
    }

    private static String mutated(Random random, String whole) {
        StringBuilder text = new StringBuilder(whole);
        for (int i = random.nextInt(3); i > 0; i--) {
            int at = random.nextInt(text.length() + 1);
            int cut = Math.min(text.length(), at + random.nextInt(3));
            text.replace(at, cut, random.nextBoolean() ? "" : PIECES[random.nextInt(PIECES.length)]);
        }
        return text.toString();
    }

    /** Splits the text; a token that is none becomes "?"; the end is "". */
    private void split(String text) {
        Matcher runs = RUNS.matcher(text);
        int at = 0;
        while (runs.find(at) && runs.start() == at) {
            String run = runs.group(1);
            boolean word = run.matches("[a-z]{1,8}");
            boolean number = run.matches("[0-9]{1,4}") && runs.group(2) == null;
            tokens.add(word || number || run.matches("[:,;]") ? run : "?");
            places.add(runs.start(1));
            at = runs.end(1);
        }
        tokens.add("");
        places.add(text.length());
    }

    /** The fault of a text and its place, by what may follow what. */
    private int[] read(String text) {
        split(text);
        List<String> names = new ArrayList<>();
        List<Integer> stations = new ArrayList<>();
        int ahead = -1;
        int stops = 0;
        String state = "TRAIN";
        for (int i = 0; i < tokens.size(); i++) {
            String token = tokens.get(i);
            int number = token.matches("[0-9]+") ? Integer.parseInt(token) : -1;
            int fault = 0;
            if (token.equals("?")) {
                fault = 1;
            } else if (state.equals("TRAIN") && token.isEmpty()) {
                return new int[] {0, -1};
            } else if (!fits(state, token, stops)) {
                fault = 2;
            } else if (state.equals("NAME") && names.contains(token) || state.equals("S") && stations.contains(number)) {
                fault = 3;
            } else if (number > most(state) || state.equals("M") && number <= ahead) {
                fault = 4;
            }
            if (fault != 0) {
                return new int[] {fault, places.get(i)};
            }
            if (state.equals("NAME")) {
                names.add(token);
                stations.clear();
                ahead = -1;
                stops = 0;
            } else if (state.equals("S")) {
                stations.add(number);
            } else if (state.equals("M")) {
                ahead = number;
                stops++;
            } else if (token.equals(";")) {
                trains++;
            }
            state = next(state, token);
        }
        throw new IllegalStateException(text);
    }

    private boolean fits(String state, String token, int stops) {
        switch (state) {
            case "TRAIN":
                return token.equals("train") && trains < 8;
            case "NAME":
                return token.matches("[a-z]+") && !token.matches("train|carries|at");
            case "CARRIES":
                return token.equals("carries");
            case "COLON":
                return token.equals(":");
            case "S":
                return token.matches("[0-9]+") && stops < 8;
            case "AT":
                return token.equals("at");
            case "MORE":
                return token.equals(",") || token.equals(";") && stops >= 2;
            default:
                return token.matches("[0-9]+");
        }
    }

    private static int most(String state) {
        return state.equals("N") ? 99 : state.equals("S") ? 9 : 1439;
    }

    private static String next(String state, String token) {
        List<String> order = List.of("TRAIN", "NAME", "CARRIES", "N", "COLON", "S", "AT", "M", "MORE");
        if (state.equals("MORE")) {
            return token.equals(",") ? "S" : "TRAIN";
        }
        return order.get(order.indexOf(state) + 1);
    }
}
