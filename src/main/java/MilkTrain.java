/**
 * A milk office of one night: churns that wait at stations and ride by trains of a timetable,
 * souring by the warmth of the hour; their loading; tanks, bottlings, and finds of bad milk.
 */
public final class MilkTrain {
    public static final int NONE = -1;

    private static final int MAX_BYTES = 1000;
    private static final int BYTES_A_FEED = 20;
    private static final int MAX_TRAINS = 8;
    private static final int MAX_STOPS = 8;
    private static final int MAX_CARRIED = 99;
    private static final int STATIONS = 10;
    private static final int CITY = 0;
    private static final int LAST_MINUTE = 1439;
    private static final int MAX_DELAY = 300;
    private static final int LATEST_MINUTE = LAST_MINUTE + MAX_DELAY;
    private static final int HOURS_TOLD = 24;
    private static final int MAX_WARMTH = 40;
    private static final int FIRST_LIMIT = 1000;
    private static final int MAX_LIMIT = 100000;
    private static final int FARMS = 12;
    private static final int MAX_CHURNS = 10;
    private static final int MAX_CHURN_PINTS = 100;
    private static final int TANKS = 4;
    private static final int MAX_TANK_PINTS = 1000;
    private static final int MAX_BOTTLINGS = 40;
    private static final int MAX_FINDS = 30;
    private static final int MAX_STEP = 1000;
    private static final int MAX_CLOCK = 100000;

    private final Tape tape;
    private final Reader reader;
    private Timetable table;
    private Timetable spare;
    private final Climate climate;
    private final WayFinder ways;
    private final Loading best;
    private boolean bestIsOld;
    private int sourFrom;
    private final Churn[] churns;
    private int churnCount;
    private final Tank[] tanks;
    private final Bottling[] bottlings;
    private int bottlingCount;
    private final Find[] finds;
    private int findCount;
    private int clock;

    public MilkTrain() {
        tape = new Tape();
        reader = new Reader(tape);
        table = new Timetable();
        spare = new Timetable();
        climate = new Climate();
        ways = new WayFinder(climate);
        best = new Loading(ways);
        bestIsOld = true;
        sourFrom = FIRST_LIMIT;
        churns = new Churn[MAX_CHURNS];
        for (int i = 0; i < MAX_CHURNS; i++) {
            churns[i] = new Churn();
        }
        tanks = new Tank[TANKS];
        for (int i = 0; i < TANKS; i++) {
            tanks[i] = new Tank();
        }
        bottlings = new Bottling[MAX_BOTTLINGS];
        for (int i = 0; i < MAX_BOTTLINGS; i++) {
            bottlings[i] = new Bottling();
        }
        finds = new Find[MAX_FINDS];
        for (int i = 0; i < MAX_FINDS; i++) {
            finds[i] = new Find();
        }
    }

    public int feed(int a, int b, int c, int d, int e) {
        if (tape.length + BYTES_A_FEED > MAX_BYTES) {
            return NONE;
        }
        tape.append(a);
        tape.append(b);
        tape.append(c);
        tape.append(d);
        tape.append(e);
        return tape.length;
    }

    public int end(int n) {
        if (n < 0 || n > tape.length) {
            return NONE;
        }
        tape.length = n;
        return n;
    }

    public int timetable() {
        if (!reader.read(spare)) {
            return NONE;
        }
        Timetable old = table;
        table = spare;
        spare = old;
        tape.length = 0;
        bestIsOld = true;
        return table.count;
    }

    public int fault(int what) {
        switch (what) {
            case 0:
                return reader.faultKind;
            case 1:
                return reader.faultPlace;
            default:
                return NONE;
        }
    }

    public int train(int train, int what) {
        if (!table.has(train)) {
            return NONE;
        }
        Train asked = table.trains[train];
        switch (what) {
            case 0:
                return asked.carries;
            case 1:
                return asked.stops;
            case 2:
                return asked.late;
            default:
                return stopOf(asked, what);
        }
    }

    private static int stopOf(Train train, int what) {
        if (what >= 10 && what < 10 + train.stops) {
            return train.stationOf(what - 10);
        }
        if (what >= 20 && what < 20 + train.stops) {
            return train.minuteOf(what - 20);
        }
        return NONE;
    }

    public boolean delay(int train, int minutes) {
        if (!table.has(train) || minutes < 0 || minutes > MAX_DELAY) {
            return false;
        }
        table.trains[train].late = minutes;
        bestIsOld = true;
        return true;
    }

    public boolean warmth(int hour, int warmth) {
        if (hour < 0 || hour >= HOURS_TOLD || warmth < NONE || warmth > MAX_WARMTH) {
            return false;
        }
        climate.tell(hour, warmth);
        bestIsOld = true;
        return true;
    }

    public int sours(int minute, int station) {
        if (minute < 0 || minute > LATEST_MINUTE || station < NONE || station >= STATIONS) {
            return NONE;
        }
        return climate.inMinute(minute, station);
    }

    public boolean cooler(int station, boolean is) {
        if (station < 0 || station >= STATIONS) {
            return false;
        }
        climate.coolers[station] = is;
        bestIsOld = true;
        return true;
    }

    public boolean limit(int souring) {
        if (souring < 1 || souring > MAX_LIMIT) {
            return false;
        }
        sourFrom = souring;
        bestIsOld = true;
        return true;
    }

    public int churn(int farm, int station, int ready, int pints) {
        boolean placed = isFarm(farm) && station >= 1 && station < STATIONS;
        boolean timed = ready >= 0 && ready <= LAST_MINUTE;
        boolean filled = pints >= 1 && pints <= MAX_CHURN_PINTS;
        if (!placed || !timed || !filled || churnCount >= MAX_CHURNS) {
            return NONE;
        }
        Churn added = churns[churnCount];
        added.farm = farm;
        added.station = station;
        added.ready = ready;
        added.pints = pints;
        churnCount++;
        bestIsOld = true;
        return churnCount - 1;
    }

    public int of(int churn, int what) {
        if (!isChurn(churn)) {
            return NONE;
        }
        Churn asked = churns[churn];
        switch (what) {
            case 0:
                return asked.farm;
            case 1:
                return asked.station;
            case 2:
                return asked.ready;
            case 3:
                return asked.pints;
            case 4:
                return asked.pouredInto;
            default:
                return NONE;
        }
    }

    public int alone(int churn) {
        if (!isChurn(churn)) {
            return NONE;
        }
        ways.seek(churns[churn], table);
        return ways.soured;
    }

    public int way(int churn, int what) {
        if (!isChurn(churn) || what < 0 || what > 1) {
            return NONE;
        }
        ways.seek(churns[churn], table);
        return what == 0 ? ways.ends : ways.rides;
    }

    public int by(int churn, int train) {
        if (!isChurn(churn) || !table.has(train)) {
            return NONE;
        }
        return ways.direct(churns[churn], table.trains[train]);
    }

    public int lost() {
        renewBest();
        return best.lostPints;
    }

    public int souring() {
        renewBest();
        return best.souredTogether;
    }

    public int load(int churn) {
        if (!isChurn(churn)) {
            return NONE;
        }
        renewBest();
        return best.trainOf(churn);
    }

    public int later(int minutes) {
        if (minutes < 0 || minutes > MAX_STEP || clock + minutes > MAX_CLOCK) {
            return NONE;
        }
        clock += minutes;
        return clock;
    }

    public int pour(int churn, int tank) {
        if (!isChurn(churn) || !isTank(tank)) {
            return NONE;
        }
        Churn poured = churns[churn];
        if (poured.pouredInto != NONE || !tanks[tank].hasRoomFor(poured.pints)) {
            return NONE;
        }
        tanks[tank].fill(poured.pints, 1 << poured.farm);
        poured.pouredInto = tank;
        return tanks[tank].pints;
    }

    public int lead(int from, int to, int pints) {
        if (!isTank(from) || !isTank(to) || from == to) {
            return NONE;
        }
        if (!tanks[from].canGive(pints) || !tanks[to].hasRoomFor(pints)) {
            return NONE;
        }
        tanks[to].fill(pints, tanks[from].farms);
        tanks[from].draw(pints);
        return tanks[from].pints;
    }

    public int bottle(int tank, int pints) {
        if (!isTank(tank) || !tanks[tank].canGive(pints) || bottlingCount >= MAX_BOTTLINGS) {
            return NONE;
        }
        Bottling made = bottlings[bottlingCount];
        made.pints = pints;
        made.farms = tanks[tank].farms;
        made.minute = clock;
        tanks[tank].draw(pints);
        bottlingCount++;
        return bottlingCount - 1;
    }

    public int tank(int tank, int what) {
        if (!isTank(tank)) {
            return NONE;
        }
        switch (what) {
            case 0:
                return tanks[tank].pints;
            case 1:
                return tanks[tank].farms;
            default:
                return NONE;
        }
    }

    public int bottling(int k, int what) {
        if (!isBottling(k)) {
            return NONE;
        }
        Bottling asked = bottlings[k];
        switch (what) {
            case 0:
                return asked.pints;
            case 1:
                return asked.farms;
            case 2:
                return asked.minute;
            default:
                return NONE;
        }
    }

    public int find(int farm, int from) {
        if (!isFarm(farm) || from < 0 || from > MAX_CLOCK || findCount >= MAX_FINDS) {
            return NONE;
        }
        Find told = finds[findCount];
        told.farm = farm;
        told.badFrom = from;
        told.toldAt = clock;
        findCount++;
        return findCount - 1;
    }

    public boolean untell(int find) {
        if (find < 0 || find >= findCount || finds[find].untoldAt != NONE) {
            return false;
        }
        finds[find].untoldAt = clock;
        return true;
    }

    public int recalled(int bottling, int k) {
        if (!isBottling(bottling)) {
            return NONE;
        }
        return isCalledBack(bottlings[bottling], k) ? 1 : 0;
    }

    public int recall(int k) {
        int pints = 0;
        for (int i = 0; i < bottlingCount; i++) {
            if (isCalledBack(bottlings[i], k)) {
                pints += bottlings[i].pints;
            }
        }
        return pints;
    }

    public int about(int what) {
        switch (what) {
            case 0:
                return clock;
            case 1:
                return table.count;
            case 2:
                return churnCount;
            case 3:
                return bottlingCount;
            case 4:
                return findCount;
            case 5:
                return tape.length;
            case 6:
                return sourFrom;
            default:
                return NONE;
        }
    }

    private static boolean isFarm(int farm) {
        return farm >= 0 && farm < FARMS;
    }

    private boolean isChurn(int churn) {
        return churn >= 0 && churn < churnCount;
    }

    private static boolean isTank(int tank) {
        return tank >= 0 && tank < TANKS;
    }

    private boolean isBottling(int k) {
        return k >= 0 && k < bottlingCount;
    }

    private boolean isCalledBack(Bottling made, int k) {
        if (made.minute > k) {
            return false;
        }
        for (int i = 0; i < findCount; i++) {
            if (finds[i].isKnownAt(k) && finds[i].concerns(made)) {
                return true;
            }
        }
        return false;
    }

    private void renewBest() {
        if (bestIsOld) {
            best.settle(churns, churnCount, table, sourFrom);
            bestIsOld = false;
        }
    }

    /** The bytes that have been fed, and not yet become a timetable. */
    private static final class Tape {
        private final int[] bytes = new int[MAX_BYTES];
        private int length;

        void append(int four) {
            for (int shift = 24; shift >= 0 && length < MAX_BYTES; shift -= 8) {
                bytes[length] = (four >>> shift) & 255;
                length++;
            }
        }

        /** The byte at a place, or NONE at the end, so that no caller need look at the length. */
        int byteAt(int place) {
            return place >= 0 && place < length ? bytes[place] : NONE;
        }
    }

    private static final class Train {
        private long name;
        private int carries;
        private int late;
        private int stops;
        private final int[] stations = new int[MAX_STOPS];
        private final int[] minutes = new int[MAX_STOPS];

        void begin(long newName) {
            name = newName;
            carries = 0;
            late = 0;
            stops = 0;
        }

        int stationOf(int stop) {
            return stop >= 0 && stop < stops ? stations[stop] : NONE;
        }

        int minuteOf(int stop) {
            return stop >= 0 && stop < stops ? minutes[stop] + late : NONE;
        }

        int stopAt(int station) {
            for (int i = 0; i < stops; i++) {
                if (stations[i] == station) {
                    return i;
                }
            }
            return NONE;
        }
    }

    private static final class Timetable {
        private final Train[] trains = new Train[MAX_TRAINS];
        private int count;

        Timetable() {
            for (int i = 0; i < MAX_TRAINS; i++) {
                trains[i] = new Train();
            }
        }

        boolean has(int train) {
            return train >= 0 && train < count;
        }

        boolean hasName(long name) {
            for (int i = 0; i < count; i++) {
                if (trains[i].name == name) {
                    return true;
                }
            }
            return false;
        }
    }

    /** Reads a timetable from the tape, token by token, as far as the first fault. */
    private static final class Reader {
        private static final int NO_TOKEN = 1;
        private static final int MISPLACED = 2;
        private static final int TOLD_ALREADY = 3;
        private static final int BAD_NUMBER = 4;

        // The kinds of tokens; a sign's kind is its byte.
        private static final int AT_END = 0;
        private static final int WRONG = 1;
        private static final int WORD = 2;
        private static final int NUMBER = 3;

        private static final int MAX_LETTERS = 8;
        private static final int MAX_DIGITS = 4;

        // A word is held as its letters' bytes, the first one highest: eight just fit.
        private static final long TRAIN = 0x747261696EL;
        private static final long CARRIES = 0x63617272696573L;
        private static final long AT = 0x6174L;

        private final Tape tape;
        private int behind;
        private int place;
        private int kind;
        private long word;
        private int number;
        private int faultKind;
        private int faultPlace;

        Reader(Tape source) {
            tape = source;
            faultPlace = NONE;
        }

        boolean read(Timetable into) {
            into.count = 0;
            faultKind = 0;
            faultPlace = NONE;
            behind = 0;
            advance();
            for (int i = 0; i < MAX_TRAINS && kind != AT_END; i++) {
                if (!readHead(into, into.trains[i]) || !readStops(into.trains[i])) {
                    return false;
                }
                into.count++;
            }
            return kind == AT_END || refuseToken();
        }

        private boolean readHead(Timetable into, Train train) {
            return takeWord(TRAIN) && takeName(into, train) && takeWord(CARRIES)
                && takeCarries(train) && takeSign(':');
        }

        private boolean readStops(Train train) {
            for (int k = 0; k < MAX_STOPS; k++) {
                if (!takeStation(train, k) || !takeWord(AT) || !takeMinute(train, k)) {
                    return false;
                }
                if (k > 0 && kind == ';') {
                    advance();
                    return true;
                }
                if (!takeSign(',')) {
                    return false;
                }
            }
            return refuseToken();
        }

        private boolean takeName(Timetable into, Train train) {
            if (kind != WORD || word == TRAIN || word == CARRIES || word == AT) {
                return refuseToken();
            }
            if (into.hasName(word)) {
                return refuse(TOLD_ALREADY);
            }
            train.begin(word);
            advance();
            return true;
        }

        private boolean takeCarries(Train train) {
            if (kind != NUMBER) {
                return refuseToken();
            }
            if (number > MAX_CARRIED) {
                return refuse(BAD_NUMBER);
            }
            train.carries = number;
            advance();
            return true;
        }

        private boolean takeStation(Train train, int k) {
            if (kind != NUMBER) {
                return refuseToken();
            }
            if (train.stopAt(number) != NONE) {
                return refuse(TOLD_ALREADY);
            }
            if (number >= STATIONS) {
                return refuse(BAD_NUMBER);
            }
            train.stations[k] = number;
            advance();
            return true;
        }

        private boolean takeMinute(Train train, int k) {
            if (kind != NUMBER) {
                return refuseToken();
            }
            int ahead = k > 0 ? train.minutes[k - 1] : NONE;
            if (number > LAST_MINUTE || number <= ahead) {
                return refuse(BAD_NUMBER);
            }
            train.minutes[k] = number;
            train.stops = k + 1;
            advance();
            return true;
        }

        private boolean takeWord(long wanted) {
            if (kind != WORD || word != wanted) {
                return refuseToken();
            }
            advance();
            return true;
        }

        private boolean takeSign(int sign) {
            if (kind != sign) {
                return refuseToken();
            }
            advance();
            return true;
        }

        private boolean refuseToken() {
            return refuse(kind == WRONG ? NO_TOKEN : MISPLACED);
        }

        private boolean refuse(int fault) {
            faultKind = fault;
            faultPlace = place;
            return false;
        }

        private void advance() {
            place = behind;
            while (place < tape.length && isBlank(tape.byteAt(place))) {
                place++;
            }
            behind = place;
            int first = tape.byteAt(place);
            if (first == NONE) {
                kind = AT_END;
            } else if (isLetter(first)) {
                scanWord();
            } else if (isDigit(first)) {
                scanNumber();
            } else {
                kind = first == ':' || first == ',' || first == ';' ? first : WRONG;
                behind++;
            }
        }

        private void scanWord() {
            word = 0;
            while (behind < tape.length && isLetter(tape.byteAt(behind))) {
                word = (word << 8) | tape.byteAt(behind);
                behind++;
            }
            kind = behind - place <= MAX_LETTERS ? WORD : WRONG;
        }

        private void scanNumber() {
            number = 0;
            while (behind < tape.length && isDigit(tape.byteAt(behind))) {
                number = number * 10 + (tape.byteAt(behind) - '0');
                behind++;
            }
            boolean whole = behind - place <= MAX_DIGITS && !isLetter(tape.byteAt(behind));
            kind = whole ? NUMBER : WRONG;
        }

        private static boolean isBlank(int c) {
            return c == 32 || c == 10;
        }

        private static boolean isLetter(int c) {
            return c >= 'a' && c <= 'z';
        }

        private static boolean isDigit(int c) {
            return c >= '0' && c <= '9';
        }
    }

    /** The warmth of the hours and the coolers of the stations: how fast milk sours. */
    private static final class Climate {
        private static final int HOURS = LATEST_MINUTE / 60 + 1;
        private static final int UNTOLD_WARMTH = 10;
        private static final int HARMLESS_WARMTH = 4;

        private final int[] told = new int[HOURS_TOLD];
        private final boolean[] coolers = new boolean[STATIONS];
        private final int[] rates = new int[HOURS];
        // What a churn sours from minute 0 to the hour's begin: kept, as ways ask for many spans.
        private final int[] openSums = new int[HOURS];
        private final int[] cooledSums = new int[HOURS];

        Climate() {
            for (int hour = 0; hour < HOURS_TOLD; hour++) {
                told[hour] = NONE;
            }
            sumUp();
        }

        void tell(int hour, int warmth) {
            if (hour >= 0 && hour < HOURS_TOLD) {
                told[hour] = warmth;
                sumUp();
            }
        }

        int inMinute(int minute, int station) {
            int hour = minute / 60;
            if (hour < 0 || hour >= HOURS) {
                return 0;
            }
            return isCooled(station) ? rates[hour] / 4 : rates[hour];
        }

        /** What a churn sours between two minutes, waiting at a station or riding (NONE). */
        int between(int from, int to, int station) {
            boolean cooled = isCooled(station);
            return until(to, cooled) - until(from, cooled);
        }

        private boolean isCooled(int station) {
            return station >= 0 && station < STATIONS && coolers[station];
        }

        private int until(int minute, boolean cooled) {
            int hour = minute / 60;
            if (hour < 0 || hour >= HOURS) {
                return 0;
            }
            int rest = minute % 60;
            return cooled ? cooledSums[hour] + rest * (rates[hour] / 4)
                : openSums[hour] + rest * rates[hour];
        }

        private void sumUp() {
            int open = 0;
            int cooled = 0;
            for (int hour = 0; hour < HOURS; hour++) {
                rates[hour] = Math.max(0, warmthOf(hour) - HARMLESS_WARMTH);
                openSums[hour] = open;
                cooledSums[hour] = cooled;
                open += 60 * rates[hour];
                cooled += 60 * (rates[hour] / 4);
            }
        }

        private int warmthOf(int anyHour) {
            int hour = Math.min(anyHour, HOURS_TOLD - 1);
            int ahead = NONE;
            for (int i = hour; i >= 0 && ahead == NONE; i--) {
                ahead = told[i];
            }
            int behind = NONE;
            for (int i = hour; i >= 0 && i < HOURS_TOLD && behind == NONE; i++) {
                behind = told[i];
            }
            if (ahead == NONE) {
                return behind == NONE ? UNTOLD_WARMTH : behind;
            }
            return behind == NONE ? ahead : (ahead + behind) / 2;
        }
    }

    private static final class Churn {
        private int farm;
        private int station;
        private int ready;
        private int pints;
        private int pouredInto = NONE;
    }

    /** Seeks the way to the city on which a churn sours least. */
    private static final class WayFinder {
        private static final int ALL_STOPS = MAX_TRAINS * MAX_STOPS;
        private static final int NOT_REACHED = 0x7FFFFFFF;
        // A cost is souring * COST_OF_ONE + trains: one number puts souring ahead of trains.
        private static final int COST_OF_ONE = 100;

        private final Climate climate;
        // Of the k-th stop of train t at t * MAX_STOPS + k.
        private final int[] stations = new int[ALL_STOPS];
        private final int[] minutes = new int[ALL_STOPS];
        private final int[] costs = new int[ALL_STOPS];
        private final int[] byMinute = new int[ALL_STOPS];
        private int count;
        private int soured;
        private int ends;
        private int rides;

        WayFinder(Climate weather) {
            climate = weather;
        }

        /** What a churn sours on one train from its station to the city, or NONE. */
        int direct(Churn churn, Train train) {
            int from = train.stopAt(churn.station);
            int to = train.stopAt(CITY);
            if (from == NONE || to <= from || train.minuteOf(from) < churn.ready) {
                return NONE;
            }
            int boards = train.minuteOf(from);
            return climate.between(churn.ready, boards, churn.station)
                + climate.between(boards, train.minuteOf(to), NONE);
        }

        void seek(Churn churn, Timetable table) {
            gatherStops(table);
            soured = NONE;
            ends = NONE;
            rides = NONE;
            for (int i = 0; i < count; i++) {
                int stop = byMinute[i];
                costs[stop] = costAt(stop, i, churn);
                if (stations[stop] == CITY && costs[stop] != NOT_REACHED) {
                    keepBetter(costs[stop], minutes[stop]);
                }
            }
        }

        private void gatherStops(Timetable table) {
            count = 0;
            for (int t = 0; t < table.count; t++) {
                Train train = table.trains[t];
                for (int k = 0; k < train.stops; k++) {
                    int stop = t * MAX_STOPS + k;
                    stations[stop] = train.stationOf(k);
                    minutes[stop] = train.minuteOf(k);
                    insertByMinute(stop);
                }
            }
        }

        private void insertByMinute(int stop) {
            if (count >= ALL_STOPS) {
                return;
            }
            int i = count;
            while (i > 0 && minutes[byMinute[i - 1]] > minutes[stop]) {
                byMinute[i] = byMinute[i - 1];
                i--;
            }
            byMinute[i] = stop;
            count++;
        }

        /**
         * The least cost of coming to a stop on its train. Boarding is settled only here, one stop
         * later: then all who come to the boarding's station at that very minute are known.
         */
        private int costAt(int stop, int known, Churn churn) {
            if (stop % MAX_STOPS == 0) {
                return NOT_REACHED;
            }
            int from = stop - 1;
            int cost = boardingCost(from, known, churn);
            if (cost == NOT_REACHED) {
                return NOT_REACHED;
            }
            return cost + COST_OF_ONE * climate.between(minutes[from], minutes[stop], NONE);
        }

        private int boardingCost(int stop, int known, Churn churn) {
            int minute = minutes[stop];
            int station = stations[stop];
            int least = costs[stop];
            if (station == churn.station && minute >= churn.ready) {
                int wait = climate.between(churn.ready, minute, station);
                least = Math.min(least, COST_OF_ONE * wait + 1);
            }
            for (int i = 0; i < known; i++) {
                int other = byMinute[i];
                boolean meets = stations[other] == station && minutes[other] <= minute;
                if (meets && costs[other] != NOT_REACHED) {
                    int wait = climate.between(minutes[other], minute, station);
                    least = Math.min(least, costs[other] + COST_OF_ONE * wait + 1);
                }
            }
            return least;
        }

        private void keepBetter(int cost, int minute) {
            int sourness = cost / COST_OF_ONE;
            int trains = cost % COST_OF_ONE;
            boolean better = soured == NONE || sourness < soured;
            if (!better && sourness == soured) {
                better = minute < ends || (minute == ends && trains < rides);
            }
            if (better) {
                soured = sourness;
                ends = minute;
                rides = trains;
            }
        }
    }

    /**
     * The best loading. The churns get their trains one by one, each by the cheapest chain of
     * moves of those ahead of it, so that the loading is best at every step.
     */
    private static final class Loading {
        private static final int LEFT = MAX_TRAINS;
        private static final int CHOICES = MAX_TRAINS + 1;
        private static final long NO_WAY = 0x7FFFFFFFFFFFFFFFL;
        // One number holds all that is compared: lost pints, then souring, then the churns' trains
        // as digits. CHOICES to the power of MAX_CHURNS stands above all such digits.
        private static final long COST_OF_SOURING = 3486784401L;
        // One pint outweighs all souring: of every churn through the whole night.
        private static final long COST_OF_PINT =
            COST_OF_SOURING * (MAX_CHURNS * MAX_WARMTH * LATEST_MINUTE + 1);

        private final WayFinder ways;
        private final long[][] costs = new long[MAX_CHURNS][CHOICES];
        private final int[] choices = new int[MAX_CHURNS];
        private final int[] room = new int[CHOICES];
        private final long[] chainCosts = new long[CHOICES];
        private final int[] lastMoved = new int[CHOICES];
        private int loaded;
        private int lostPints;
        private int souredTogether;

        Loading(WayFinder finder) {
            ways = finder;
        }

        int trainOf(int churn) {
            if (churn < 0 || churn >= loaded || choices[churn] == LEFT) {
                return NONE;
            }
            return choices[churn];
        }

        void settle(Churn[] churns, int count, Timetable table, int sourFrom) {
            makeRoom(table);
            loaded = Math.min(count, MAX_CHURNS);
            long digit = COST_OF_SOURING / CHOICES;
            for (int i = 0; i < loaded; i++) {
                setCosts(costs[i], churns[i], table, sourFrom);
                addDigits(costs[i], digit);
                digit /= CHOICES;
            }
            for (int i = 0; i < loaded; i++) {
                seekChains(i);
                place(i);
            }
            sumUp(churns, table);
        }

        private void makeRoom(Timetable table) {
            for (int t = 0; t < MAX_TRAINS; t++) {
                room[t] = table.has(t) ? table.trains[t].carries : 0;
            }
            room[LEFT] = MAX_CHURNS;
        }

        private void setCosts(long[] row, Churn churn, Timetable table, int sourFrom) {
            for (int t = 0; t < MAX_TRAINS; t++) {
                int soured = table.has(t) ? ways.direct(churn, table.trains[t]) : NONE;
                // A ride that ends sour loses the pints too, and sours: leaving is always better.
                boolean good = soured != NONE && soured < sourFrom;
                row[t] = good ? soured * COST_OF_SOURING : NO_WAY;
            }
            row[LEFT] = churn.pints * COST_OF_PINT;
        }

        private void addDigits(long[] row, long digit) {
            for (int t = 0; t < CHOICES; t++) {
                if (row[t] != NO_WAY) {
                    row[t] += t * digit;
                }
            }
        }

        /** For each choice the cheapest chain that ends there and begins with a new churn. */
        private void seekChains(int newChurn) {
            for (int t = 0; t < CHOICES; t++) {
                chainCosts[t] = costs[newChurn][t];
                lastMoved[t] = newChurn;
            }
            boolean better = true;
            for (int round = 0; round < CHOICES && better; round++) {
                better = false;
                for (int i = 0; i < newChurn; i++) {
                    better |= lengthenChains(i);
                }
            }
        }

        private boolean lengthenChains(int churn) {
            int from = choices[churn];
            if (chainCosts[from] == NO_WAY) {
                return false;
            }
            boolean better = false;
            long freed = chainCosts[from] - costs[churn][from];
            for (int t = 0; t < CHOICES; t++) {
                boolean open = t != from && costs[churn][t] != NO_WAY;
                if (open && freed + costs[churn][t] < chainCosts[t]) {
                    chainCosts[t] = freed + costs[churn][t];
                    lastMoved[t] = churn;
                    better = true;
                }
            }
            return better;
        }

        private void place(int newChurn) {
            int to = LEFT;
            for (int t = 0; t < MAX_TRAINS; t++) {
                if (room[t] > 0 && chainCosts[t] < chainCosts[to]) {
                    to = t;
                }
            }
            room[to]--;
            for (int step = 0; step < CHOICES && lastMoved[to] != newChurn; step++) {
                int moved = lastMoved[to];
                int from = choices[moved];
                choices[moved] = to;
                to = from;
            }
            choices[newChurn] = to;
        }

        private void sumUp(Churn[] churns, Timetable table) {
            lostPints = 0;
            souredTogether = 0;
            for (int i = 0; i < loaded; i++) {
                if (table.has(choices[i])) {
                    souredTogether += ways.direct(churns[i], table.trains[choices[i]]);
                } else {
                    lostPints += churns[i].pints;
                }
            }
        }
    }

    private static final class Tank {
        private int pints;
        private int farms;

        boolean hasRoomFor(int more) {
            return more <= MAX_TANK_PINTS - pints;
        }

        boolean canGive(int wanted) {
            return wanted >= 1 && wanted <= pints;
        }

        void fill(int more, int theirFarms) {
            pints += more;
            farms |= theirFarms;
        }

        void draw(int drawn) {
            pints -= drawn;
            if (pints == 0) {
                farms = 0;
            }
        }
    }

    private static final class Bottling {
        private int pints;
        private int farms;
        private int minute;
    }

    private static final class Find {
        private int farm;
        private int badFrom;
        private int toldAt;
        private int untoldAt = NONE;

        boolean isKnownAt(int k) {
            return toldAt <= k && (untoldAt == NONE || untoldAt > k);
        }

        boolean concerns(Bottling made) {
            return made.minute >= badFrom && (made.farms & (1 << farm)) != 0;
        }
    }
}
