import java.util.Random;

/** A night of chance (from a seed), told to an office, with the plainest reckoning of what is due. */
final class Night {
    final MilkTrain office = new MilkTrain();
    final int trains;
    final int churns;
    final int limit;
    final int[] carries;
    final int[] late;
    final int[][] stations;
    final int[][] minutes;
    final boolean[] cooled = new boolean[10];
    final int[] warmth = new int[24];
    final int[][] churn;
    private int[] best;

    Night(Random random, int mostTrains, int mostChurns, int span) {
        trains = random.nextInt(mostTrains + 1);
        churns = random.nextInt(mostChurns + 1);
        limit = 1 + random.nextInt(random.nextBoolean() ? 4000 : 100000);
        carries = new int[trains];
        late = new int[trains];
        stations = new int[trains][];
        minutes = new int[trains][];
        churn = new int[churns][];
        StringBuilder text = new StringBuilder();
        int towns = 3 + random.nextInt(8);
        for (int t = 0; t < trains; t++) {
            makeTrain(random, t, Math.min(towns, 10), span, text);
        }
        Texts.put(office, text.toString());
        if (office.timetable() != trains) {
            throw new IllegalStateException(text.toString());
        }
        delayTrains(random);
        makeWeather(random);
        for (int c = 0; c < churns; c++) {
            churn[c] = new int[] {random.nextInt(12), 1 + random.nextInt(Math.min(towns, 10) - 1),
                random.nextInt(Math.max(1, span / 2)), 1 + random.nextInt(random.nextBoolean() ? 3 : 100)};
            office.churn(churn[c][0], churn[c][1], churn[c][2], churn[c][3]);
        }
        office.limit(limit);
    }

    private void makeTrain(Random random, int t, int towns, int span, StringBuilder text) {
        carries[t] = random.nextInt(4);
        int stops = 2 + random.nextInt(Math.min(towns, 8) - 1);
        int[] left = new int[towns];
        for (int i = 0; i < towns; i++) {
            left[i] = i;
        }
        stations[t] = new int[stops];
        java.util.TreeSet<Integer> times = new java.util.TreeSet<>();
        while (times.size() < stops) {
            times.add(random.nextInt(span));
        }
        minutes[t] = times.stream().mapToInt(Integer::intValue).toArray();
        text.append("train ").append((char) ('a' + t)).append(" carries ").append(carries[t]).append(':');
        for (int k = 0; k < stops; k++) {
            int pick = k + random.nextInt(towns - k);
            stations[t][k] = left[pick];
            left[pick] = left[k];
            text.append(k == 0 ? "" : ",").append(stations[t][k]).append(" at ").append(minutes[t][k]);
        }
        text.append(';');
    }

    private void delayTrains(Random random) {
        for (int t = 0; t < trains; t++) {
            late[t] = random.nextInt(3) == 0 ? random.nextInt(301) : 0;
            office.delay(t, late[t]);
        }
    }

    private void makeWeather(Random random) {
        for (int h = 0; h < 24; h++) {
            warmth[h] = random.nextInt(3) == 0 ? random.nextInt(41) : -1;
            office.warmth(h, warmth[h]);
        }
        for (int s = 0; s < 10; s++) {
            cooled[s] = random.nextBoolean();
            office.cooler(s, cooled[s]);
        }
    }

    private int warmthOf(int hour) {
        int h = Math.min(hour, 23);
        if (warmth[h] >= 0) {
            return warmth[h];
        }
        int below = h;
        while (below >= 0 && warmth[below] < 0) {
            below--;
        }
        int above = h;
        while (above < 24 && warmth[above] < 0) {
            above++;
        }
        if (below < 0 && above > 23) {
            return 10;
        }
        if (below < 0) {
            return warmth[above];
        }
        return above > 23 ? warmth[below] : (warmth[below] + warmth[above]) / 2;
    }

    /** What milk sours from one minute to another, minute by minute. */
    int sours(int from, int to, int station) {
        int sum = 0;
        for (int m = from; m < to; m++) {
            int rate = Math.max(0, warmthOf(m / 60) - 4);
            sum += station >= 0 && cooled[station] ? rate / 4 : rate;
        }
        return sum;
    }

    int at(int t, int k) {
        return minutes[t][k] + late[t];
    }

    /** Souring, end and trains of the best way of a churn; null if there is none. */
    int[] alone(int c) {
        best = null;
        wander(churn[c][1], churn[c][2], 0, 0);
        return best;
    }

    private void wander(int station, int minute, int soured, int rides) {
        for (int t = 0; t < trains; t++) {
            for (int k = 0; k < stations[t].length; k++) {
                if (stations[t][k] != station || at(t, k) < minute) {
                    continue;
                }
                int waited = soured + sours(minute, at(t, k), station);
                for (int n = k + 1; n < stations[t].length; n++) {
                    int there = waited + sours(at(t, k), at(t, n), -1);
                    if (stations[t][n] == 0) {
                        keep(there, at(t, n), rides + 1);
                    } else {
                        wander(stations[t][n], at(t, n), there, rides + 1);
                    }
                }
            }
        }
    }

    private void keep(int soured, int end, int rides) {
        int[] now = {soured, end, rides};
        if (best == null || java.util.Arrays.compare(now, best) < 0) {
            best = now;
        }
    }

    int by(int c, int t) {
        for (int k = 0; k < stations[t].length; k++) {
            for (int n = k + 1; n < stations[t].length; n++) {
                if (stations[t][k] == churn[c][1] && stations[t][n] == 0 && at(t, k) >= churn[c][2]) {
                    return sours(churn[c][2], at(t, k), churn[c][1]) + sours(at(t, k), at(t, n), -1);
                }
            }
        }
        return -1;
    }

    /** Lost, souring, then the trains of the churns (LEFT: one above the last) of the best loading. */
    int[] loading() {
        int[][] by = new int[churns][trains];
        for (int c = 0; c < churns; c++) {
            for (int t = 0; t < trains; t++) {
                by[c][t] = by(c, t);
            }
        }
        best = null;
        loadFrom(0, by, new int[churns + 2], carries.clone());
        return best;
    }

    private void loadFrom(int c, int[][] by, int[] sofar, int[] room) {
        if (c == churns) {
            if (best == null || java.util.Arrays.compare(sofar, best) < 0) {
                best = sofar.clone();
            }
            return;
        }
        for (int t = 0; t <= trains; t++) {
            if (t < trains && (room[t] == 0 || by[c][t] < 0)) {
                continue;
            }
            int lost = t == trains || by[c][t] >= limit ? churn[c][3] : 0;
            int soured = t == trains ? 0 : by[c][t];
            sofar[0] += lost;
            sofar[1] += soured;
            sofar[c + 2] = t;
            if (t < trains) {
                room[t]--;
            }
            loadFrom(c + 1, by, sofar, room);
            if (t < trains) {
                room[t]++;
            }
            sofar[0] -= lost;
            sofar[1] -= soured;
        }
    }
}
