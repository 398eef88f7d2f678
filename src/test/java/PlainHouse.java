import java.util.ArrayList;
import java.util.HashSet;
import java.util.List;
import java.util.Set;

/**
 * The document told the slow way: carpet is a row of places of the pattern, trims are taken off it one by one, and
 * phases are noted when a step is laid. It answers the calls of MeetingCarpets by their names.
 */
final class PlainHouse {
    private static final int[] LEAST = {2, 20, 0};
    private static final int[] MOST = {60, 400, 9};
    private static final Set<String> FLIGHTS = new HashSet<>();
    private static final Set<String> BEGINNINGS = new HashSet<>();

    static {
        for (int alike = 1; alike <= 20; alike++) {
            for (int riser = 10; riser <= 25; riser++) {
                for (int tread = 15; tread <= 40; tread++) {
                    String flight = (alike == 1 ? "" : alike + "*") + riser + "/" + tread;
                    FLIGHTS.add(flight);
                    for (int length = 0; length <= flight.length(); length++) {
                        BEGINNINGS.add(flight.substring(0, length));
                    }
                }
            }
        }
    }

    /** All that undo and the slots keep. */
    private static final class State {
        int[] settings = {24, 120, 0};
        List<int[]> steps = new ArrayList<>();  // riser, tread, crew or -6, phase
        int[] beginning = {0, 0};
        int[] laid = {0, 0};
        int[] pieces = {0, 0};
        int[] seams = {0, 0};
        int[] trims = {0, 0};
        List<List<Integer>> carpet = new ArrayList<>(List.of(new ArrayList<>(), new ArrayList<>()));

        State copy() {
            State copy = new State();
            copy.settings = settings.clone();
            for (int[] step : steps) {
                copy.steps.add(step.clone());
            }
            copy.beginning = beginning.clone();
            copy.laid = laid.clone();
            copy.pieces = pieces.clone();
            copy.seams = seams.clone();
            copy.trims = trims.clone();
            for (int crew = 0; crew < 2; crew++) {
                copy.carpet.set(crew, new ArrayList<>(carpet.get(crew)));
            }
            return copy;
        }

        void takeAllUp() {
            for (int[] step : steps) {
                step[2] = -6;
                step[3] = -6;
            }
            for (int crew = 0; crew < 2; crew++) {
                laid[crew] = 0;
                pieces[crew] = 0;
                seams[crew] = 0;
                trims[crew] = 0;
                carpet.get(crew).clear();
            }
        }

        int next(int crew) {
            if (laid[0] + laid[1] == steps.size()) {
                return -6;
            }
            return crew == 0 ? laid[0] : steps.size() - 1 - laid[1];
        }

        int endPlace(int step) {
            return (steps.get(step)[3] + steps.get(step)[0] + steps.get(step)[1]) % settings[0];
        }

        /** The place that has to lie at the side of the next step from which the crew comes. */
        int wantedPlace(int crew) {
            int step = next(crew);
            if (laid[crew] == 0) {
                return beginning[crew];
            }
            return crew == 0 ? endPlace(step - 1) : steps.get(step + 1)[3];
        }

        /** Cuts and lays from a piece; null if it is too short, otherwise what is left of it. */
        List<Integer> layFrom(int crew, List<Integer> piece, int place, int length) {
            List<Integer> rest = new ArrayList<>(piece);
            int side = crew == 0 ? 0 : 1;
            while (!rest.isEmpty()) {
                int at = side == 0 ? rest.get(0) : (rest.get(rest.size() - 1) + 1) % settings[0];
                if (at == place) {
                    break;
                }
                rest.remove(side == 0 ? 0 : rest.size() - 1);
            }
            if (rest.size() < length) {
                return null;
            }
            for (int i = 0; i < length; i++) {
                rest.remove(side == 0 ? 0 : rest.size() - 1);
            }
            return rest;
        }

        boolean layNext(int crew) {
            int step = next(crew);
            if (step == -6) {
                return false;
            }
            int place = wantedPlace(crew);
            int length = steps.get(step)[0] + steps.get(step)[1];
            List<Integer> old = carpet.get(crew);
            List<Integer> rest = layFrom(crew, old, place, length);
            if (rest != null) {
                trims[crew] += old.size() - length - rest.size();
            } else {
                List<Integer> piece = new ArrayList<>();
                for (int i = 0; i < settings[1]; i++) {
                    piece.add(i % settings[0]);
                }
                rest = layFrom(crew, piece, place, length);
                if (rest == null) {
                    return false;
                }
                trims[crew] += old.size() + piece.size() - length - rest.size();
                if (pieces[crew] > 0) {
                    seams[crew]++;
                }
                pieces[crew]++;
            }
            carpet.set(crew, rest);
            int phase = place;
            for (int i = 0; crew == 1 && i < length; i++) {
                phase = phase == 0 ? settings[0] - 1 : phase - 1;
            }
            steps.get(step)[2] = crew;
            steps.get(step)[3] = phase;
            laid[crew]++;
            return true;
        }
    }

    private State now = new State();
    private final State[] slots = {null, null};
    private final List<State> history = new ArrayList<>();
    private String pad = "";

    private void record() {
        history.add(now.copy());
        if (history.size() > 6) {
            history.remove(0);
        }
    }

    private static boolean isCrew(int crew) {
        return crew == 0 || crew == 1;
    }

    private int stepsLaid() {
        int laid = 0;
        for (int[] step : now.steps) {
            laid += step[2] >= 0 ? 1 : 0;
        }
        return laid;
    }

    int set(int setting, int value) {
        if (setting < 0 || setting > 2 || value < LEAST[setting] || value > MOST[setting]) {
            return -2;
        }
        boolean isTaken = now.pieces[0] + now.pieces[1] > 0;
        if (setting < 2 && isTaken || setting == 0 && Math.max(now.beginning[0], now.beginning[1]) >= value) {
            return -5;
        }
        record();
        int previous = now.settings[setting];
        now.settings[setting] = value;
        return previous;
    }

    int build(int riser, int tread) {
        if (riser < 10 || riser > 25 || tread < 15 || tread > 40) {
            return -2;
        }
        if (stepsLaid() > 0) {
            return -5;
        }
        if (now.steps.size() == 20) {
            return -4;
        }
        record();
        now.steps.add(new int[] {riser, tread, -6, -6});
        return now.steps.size() - 1;
    }

    int read() {
        if (fault() != -6) {
            return -3;
        }
        if (stepsLaid() > 0) {
            return -5;
        }
        List<int[]> added = new ArrayList<>();
        for (String flight : pad.split(";")) {
            String[] numbers = flight.substring(flight.indexOf('*') + 1).split("/");
            int alike = flight.indexOf('*') < 0 ? 1 : Integer.parseInt(flight.substring(0, flight.indexOf('*')));
            for (int i = 0; i < alike; i++) {
                added.add(new int[] {Integer.parseInt(numbers[0]), Integer.parseInt(numbers[1]), -6, -6});
            }
        }
        if (now.steps.size() + added.size() > 20) {
            return -4;
        }
        record();
        now.steps.addAll(added);
        pad = "";
        return now.steps.size();
    }

    int begin(int crew, int place) {
        if (!isCrew(crew)) {
            return -1;
        }
        if (place < 0 || place >= now.settings[0]) {
            return -2;
        }
        if (now.laid[crew] > 0) {
            return -5;
        }
        record();
        int previous = now.beginning[crew];
        now.beginning[crew] = place;
        return previous;
    }

    int lay(int crew) {
        if (!isCrew(crew)) {
            return -1;
        }
        State trial = now.copy();
        if (!trial.layNext(crew)) {
            return -5;
        }
        record();
        int step = now.next(crew);
        now = trial;
        return now.steps.get(step)[3];
    }

    int takeUp(int crew) {
        if (!isCrew(crew)) {
            return -1;
        }
        if (now.laid[crew] == 0) {
            return -5;
        }
        record();
        int step = crew == 0 ? now.laid[0] - 1 : now.steps.size() - now.laid[1];
        now.laid[crew]--;
        int[] told = now.steps.get(step);
        told[2] = -6;
        told[3] = -6;
        now.trims[crew] += told[0] + told[1];
        return step;
    }

    int clear() {
        record();
        int laid = stepsLaid();
        now.takeAllUp();
        return laid;
    }

    int step(int step, int what) {
        if (step < 0 || step >= now.steps.size()) {
            return -1;
        }
        int[] told = now.steps.get(step);
        int below = 0;
        for (int i = 0; i < step; i++) {
            below += now.steps.get(i)[0] + now.steps.get(i)[1];
        }
        int zeros = 0;
        for (int i = 0; i < told[0] + told[1]; i++) {
            zeros += (told[3] + i) % now.settings[0] == 0 ? 1 : 0;
        }
        boolean isLaid = told[2] >= 0;
        int[] answers = {told[0], told[1], told[0] + told[1], below, told[2], told[3],
            isLaid ? now.endPlace(step) : -6, isLaid ? zeros : -6};
        return what < 0 || what > 7 ? -2 : answers[what];
    }

    int crew(int crew, int what) {
        if (!isCrew(crew)) {
            return -1;
        }
        int[] answers = {now.beginning[crew], now.laid[crew], now.carpet.get(crew).size(), now.pieces[crew],
            now.seams[crew], now.trims[crew], now.next(crew)};
        return what < 0 || what > 6 ? -2 : answers[what];
    }

    int count(int what) {
        int length = 0;
        int lengthLaid = 0;
        for (int[] step : now.steps) {
            length += step[0] + step[1];
            lengthLaid += step[2] >= 0 ? step[0] + step[1] : 0;
        }
        int met = -6;
        int difference = -6;
        if (stepsLaid() == now.steps.size() && now.laid[0] > 0 && now.laid[1] > 0) {
            met = now.laid[0];
            difference = apart(now.endPlace(met - 1), now.steps.get(met)[3]);
        }
        int inPhase = met < 0 ? -6 : difference <= now.settings[2] ? 1 : 0;
        int[] answers = {now.settings[0], now.settings[1], now.settings[2], now.steps.size(), stepsLaid(), length,
            lengthLaid, (now.pieces[0] + now.pieces[1]) * now.settings[1], now.trims[0] + now.trims[1],
            now.carpet.get(0).size() + now.carpet.get(1).size(), now.seams[0] + now.seams[1], stepsLaid(),
            met, difference, inPhase, pad.length(), history.size()};
        return what < 0 || what > 16 ? -2 : answers[what];
    }

    /** Goes around the pattern from both places until the other one is there. */
    private int apart(int one, int other) {
        int ways = 0;
        while ((one + ways) % now.settings[0] != other && (other + ways) % now.settings[0] != one) {
            ways++;
        }
        return ways;
    }

    private int differenceAt(int step, int lower, int upper) {
        int below = lower;
        for (int i = 0; i < step; i++) {
            below += now.steps.get(i)[0] + now.steps.get(i)[1];
        }
        int above = upper + 60000 * now.settings[0];
        for (int i = step; i < now.steps.size(); i++) {
            above -= now.steps.get(i)[0] + now.steps.get(i)[1];
        }
        return apart(below % now.settings[0], above % now.settings[0]);
    }

    int ifMet(int step, int way) {
        if (step < 1 || step >= now.steps.size()) {
            return -1;
        }
        return way != 0 && way != 1 ? -2 : differenceAt(step, now.beginning[0], now.beginning[1]);
    }

    int bestBeginning(int crew) {
        if (!isCrew(crew)) {
            return -1;
        }
        if (now.steps.size() < 2) {
            return -5;
        }
        int best = 0;
        while (differenceAt(1, crew == 0 ? best : now.beginning[0], crew == 1 ? best : now.beginning[1]) != 0) {
            best++;
        }
        return best;
    }

    int ifLaid(int step) {
        if (now.steps.isEmpty() || step < 0 || step > now.steps.size()) {
            return -1;
        }
        State trial = now.copy();
        trial.takeAllUp();
        for (int i = 0; i < now.steps.size(); i++) {
            if (!trial.layNext(i < step ? 0 : 1)) {
                return -6;
            }
        }
        return trial.trims[0] + trial.trims[1];
    }

    int leastTrim() {
        int best = -6;
        for (int step = 0; !now.steps.isEmpty() && step <= now.steps.size(); step++) {
            if (ifLaid(step) != -6 && (best == -6 || ifLaid(step) < ifLaid(best))) {
                best = step;
            }
        }
        return best;
    }

    int put(long characters) {
        StringBuilder added = new StringBuilder();
        boolean isOver = false;
        for (int i = 0; i < 8; i++) {
            long code = characters >>> 8 * i & 255;
            if (code == 0) {
                isOver = true;
            } else if (isOver || code < 33 || code > 126) {
                return -2;
            } else {
                added.insert(0, (char) code);
            }
        }
        if (added.length() == 0) {
            return -2;
        }
        if (pad.length() + added.length() > 60) {
            return -4;
        }
        pad += added;
        return pad.length();
    }

    int wipe() {
        int length = pad.length();
        pad = "";
        return length;
    }

    int fault() {
        for (int length = 1; length <= pad.length(); length++) {
            String read = pad.substring(0, length);
            String last = read.substring(read.lastIndexOf(';') + 1);
            boolean flightEnds = read.endsWith(";");
            String ended = flightEnds ? read.substring(read.lastIndexOf(';', length - 2) + 1, length - 1) : "";
            if (flightEnds && !FLIGHTS.contains(ended) || !BEGINNINGS.contains(last)) {
                return length - 1;
            }
        }
        return FLIGHTS.contains(pad.substring(pad.lastIndexOf(';') + 1)) ? -6 : pad.length();
    }

    int undo() {
        if (history.isEmpty()) {
            return -5;
        }
        now = history.remove(history.size() - 1);
        return history.size();
    }

    int save(int slot) {
        if (slot != 0 && slot != 1) {
            return -2;
        }
        slots[slot] = now.copy();
        return now.steps.size();
    }

    int restore(int slot) {
        if (slot != 0 && slot != 1) {
            return -2;
        }
        if (slots[slot] == null) {
            return -5;
        }
        record();
        now = slots[slot].copy();
        return now.steps.size();
    }
}
