/** Stair carpet that two crews lay from both ends with one pattern. ../shared/DOC.md tells what each method does. */
public final class MeetingCarpets {
    public static final int NO_SUCH = -1, BAD_VALUE = -2, BAD_TEXT = -3, TOO_MANY = -4, NOT_POSSIBLE = -5, NONE = -6;
    public static final int REPEAT = 0, ROLL = 1, SLACK = 2;

    private static final int LEAST_REPEAT = 2, MOST_REPEAT = 60, FIRST_REPEAT = 24;
    private static final int LEAST_ROLL = 20, MOST_ROLL = 400, FIRST_ROLL = 120;
    private static final int LEAST_SLACK = 0, MOST_SLACK = 9, FIRST_SLACK = 0;
    private static final int LEAST_RISER = 10, MOST_RISER = 25;
    private static final int LEAST_TREAD = 15, MOST_TREAD = 40;
    private static final int LEAST_ALIKE = 2, MOST_ALIKE = 20;
    private static final int MOST_STEPS = 20;
    private static final int MOST_CHARACTERS = 60;
    private static final int LEAST_CODE = 33, MOST_CODE = 126;
    private static final int MOST_PUT = 8;
    private static final int MOST_UNDOABLE = 6;

    private final House now = new House();
    private final House trial = new House();
    private final History history = new History();
    private final Slot firstSlot = new Slot();
    private final Slot secondSlot = new Slot();
    private final Pad pad = new Pad();
    private final Plan plan = new Plan();

    public MeetingCarpets() {
    }

    // ---- changes

    public int set(int setting, int value) {
        switch (setting) {
            case REPEAT:
                return setRepeat(value);
            case ROLL:
                return setRoll(value);
            case SLACK:
                return setSlack(value);
            default:
                return BAD_VALUE;
        }
    }

    private int setRepeat(int value) {
        if (!isWithin(value, LEAST_REPEAT, MOST_REPEAT)) {
            return BAD_VALUE;
        }
        if (now.hasTakenPiece() || now.lower.beginning >= value || now.upper.beginning >= value) {
            return NOT_POSSIBLE;
        }
        history.keep(now);
        int previous = now.repeat;
        now.repeat = value;
        return previous;
    }

    private int setRoll(int value) {
        if (!isWithin(value, LEAST_ROLL, MOST_ROLL)) {
            return BAD_VALUE;
        }
        if (now.hasTakenPiece()) {
            return NOT_POSSIBLE;
        }
        history.keep(now);
        int previous = now.roll;
        now.roll = value;
        return previous;
    }

    private int setSlack(int value) {
        if (!isWithin(value, LEAST_SLACK, MOST_SLACK)) {
            return BAD_VALUE;
        }
        history.keep(now);
        int previous = now.slack;
        now.slack = value;
        return previous;
    }

    public int build(int riser, int tread) {
        if (!isWithin(riser, LEAST_RISER, MOST_RISER) || !isWithin(tread, LEAST_TREAD, MOST_TREAD)) {
            return BAD_VALUE;
        }
        if (now.stepsLaid() > 0) {
            return NOT_POSSIBLE;
        }
        if (now.stairs.steps >= MOST_STEPS) {
            return TOO_MANY;
        }
        history.keep(now);
        now.stairs.addStep(riser, tread);
        return now.stairs.steps - 1;
    }

    public int read() {
        if (plan.readFrom(pad) != NONE) {
            return BAD_TEXT;
        }
        if (now.stepsLaid() > 0) {
            return NOT_POSSIBLE;
        }
        if (now.stairs.steps + plan.stepsWanted > MOST_STEPS) {
            return TOO_MANY;
        }
        history.keep(now);
        now.stairs.addAll(plan.stairs);
        pad.length = 0;
        return now.stairs.steps;
    }

    public int begin(int crew, int place) {
        Crew who = now.crewOf(crew);
        if (who == null) {
            return NO_SUCH;
        }
        if (!isWithin(place, 0, now.repeat - 1)) {
            return BAD_VALUE;
        }
        if (who.laid > 0) {
            return NOT_POSSIBLE;
        }
        history.keep(now);
        int previous = who.beginning;
        who.beginning = place;
        return previous;
    }

    public int lay(int crew) {
        Crew who = now.crewOf(crew);
        if (who == null) {
            return NO_SUCH;
        }
        if (!now.canLayNext(who)) {
            return NOT_POSSIBLE;
        }
        history.keep(now);
        int laidStep = now.nextStepOf(who);
        now.layNext(who);
        return now.phaseOf(laidStep);
    }

    public int takeUp(int crew) {
        Crew who = now.crewOf(crew);
        if (who == null) {
            return NO_SUCH;
        }
        if (who.laid <= 0) {
            return NOT_POSSIBLE;
        }
        history.keep(now);
        return now.takeUpLatest(who);
    }

    public int clear() {
        history.keep(now);
        int laid = now.stepsLaid();
        now.takeAllUp();
        return laid;
    }

    // ---- what there is; nothing changes

    public int step(int step, int what) {
        if (!now.stairs.has(step)) {
            return NO_SUCH;
        }
        switch (what) {
            case 0:
                return now.stairs.riserOf(step);
            case 1:
                return now.stairs.treadOf(step);
            case 2:
                return now.stairs.lengthOf(step);
            case 3:
                return now.stairs.lengthBelow(step);
            case 4:
                return now.layerOf(step);
            case 5:
                return now.isLaid(step) ? now.phaseOf(step) : NONE;
            case 6:
                return now.isLaid(step) ? now.endOf(step) : NONE;
            case 7:
                return now.isLaid(step) ? now.patternStartsOn(step) : NONE;
            default:
                return BAD_VALUE;
        }
    }

    public int crew(int crew, int what) {
        Crew who = now.crewOf(crew);
        if (who == null) {
            return NO_SUCH;
        }
        switch (what) {
            case 0:
                return who.beginning;
            case 1:
                return who.laid;
            case 2:
                return who.left;
            case 3:
                return who.pieces;
            case 4:
                return who.seams();
            case 5:
                return who.trims;
            case 6:
                return now.nextStepOf(who);
            default:
                return BAD_VALUE;
        }
    }

    public int count(int what) {
        switch (what) {
            case 0:
                return now.repeat;
            case 1:
                return now.roll;
            case 2:
                return now.slack;
            case 3:
                return now.stairs.steps;
            case 4:
                return now.stepsLaid();
            case 5:
                return now.stairs.wholeLength();
            case 6:
                return now.lengthLaid();
            case 7:
                return now.carpetTaken();
            case 8:
                return now.allTrims();
            case 9:
                return now.lower.left + now.upper.left;
            case 10:
                return now.lower.seams() + now.upper.seams();
            case 11:
                // Each step that is laid has one rod.
                return now.stepsLaid();
            case 12:
                return now.doCrewsMeet() ? now.lowestOfUpper() : NONE;
            case 13:
                return now.doCrewsMeet() ? now.differenceBelow(now.lowestOfUpper()) : NONE;
            case 14:
                return now.doCrewsMeet() ? now.inPhaseBelow(now.lowestOfUpper()) : NONE;
            case 15:
                return pad.length;
            case 16:
                return history.kept;
            default:
                return BAD_VALUE;
        }
    }

    // ---- what if; nothing changes

    public int ifMet(int step, int way) {
        if (step == 0 || !now.stairs.has(step)) {
            return NO_SUCH;
        }
        switch (way) {
            case 0:
                return now.differenceStepByStep(step);
            case 1:
                return now.differenceAtOnce();
            default:
                return BAD_VALUE;
        }
    }

    public int bestBeginning(int crew) {
        Crew who = now.crewOf(crew);
        if (who == null) {
            return NO_SUCH;
        }
        if (now.stairs.steps < 2) {
            return NOT_POSSIBLE;
        }
        return who.fromBelow ? now.placeFromAbove(0) : now.placeFromBelow(now.stairs.steps);
    }

    public int ifLaid(int step) {
        if (now.stairs.steps == 0 || !isWithin(step, 0, now.stairs.steps)) {
            return NO_SUCH;
        }
        return trimsIfLaid(step);
    }

    private int trimsIfLaid(int step) {
        copyHouse(now, trial);
        trial.takeAllUp();
        for (int i = 0; i < now.stairs.steps; i++) {
            Crew who = i < step ? trial.lower : trial.upper;
            if (!trial.canLayNext(who)) {
                return NONE;
            }
            trial.layNext(who);
        }
        return trial.allTrims();
    }

    public int leastTrim() {
        if (now.stairs.steps == 0) {
            return NONE;
        }
        int best = NONE;
        int least = 0;
        for (int step = 0; step <= now.stairs.steps; step++) {
            int trims = trimsIfLaid(step);
            if (trims != NONE && (best == NONE || trims < least)) {
                best = step;
                least = trims;
            }
        }
        return best;
    }

    // ---- texts

    public int put(long characters) {
        int added = charactersIn(characters);
        if (added == 0) {
            return BAD_VALUE;
        }
        if (pad.length + added > MOST_CHARACTERS) {
            return TOO_MANY;
        }
        for (int i = added - 1; i >= 0; i--) {
            pad.append(codeAt(characters, i));
        }
        return pad.length;
    }

    public int wipe() {
        int length = pad.length;
        pad.length = 0;
        return length;
    }

    public int fault() {
        return plan.readFrom(pad);
    }

    // ---- undo, saving

    public int undo() {
        if (history.kept == 0) {
            return NOT_POSSIBLE;
        }
        history.bringBack(now);
        return history.kept;
    }

    public int save(int slot) {
        Slot kept = slotOf(slot);
        if (kept == null) {
            return BAD_VALUE;
        }
        copyHouse(now, kept.house);
        kept.isFilled = true;
        return now.stairs.steps;
    }

    public int restore(int slot) {
        Slot kept = slotOf(slot);
        if (kept == null) {
            return BAD_VALUE;
        }
        if (!kept.isFilled) {
            return NOT_POSSIBLE;
        }
        history.keep(now);
        copyHouse(kept.house, now);
        return now.stairs.steps;
    }

    private Slot slotOf(int number) {
        if (number == 0) {
            return firstSlot;
        }
        return number == 1 ? secondSlot : null;
    }

    // ---- small helpers

    private static boolean isWithin(int value, int least, int most) {
        return value >= least && value <= most;
    }

    /** What is left of a division, 0 or more also for values below 0. */
    private static int leftOver(int value, int divisor) {
        if (divisor <= 0) {
            return 0;
        }
        int left = value % divisor;
        return left < 0 ? left + divisor : left;
    }

    private static int numberAt(int[] numbers, int index) {
        return index >= 0 && index < numbers.length ? numbers[index] : 0;
    }

    private static void copyNumbers(int[] from, int[] to) {
        for (int i = 0; i < from.length && i < to.length; i++) {
            to[i] = from[i];
        }
    }

    private static House houseAt(House[] houses, int index) {
        return index >= 0 && index < houses.length ? houses[index] : null;
    }

    private static void copyHouse(House from, House to) {
        if (from != null && to != null) {
            to.becomeHouse(from);
        }
    }

    /** The 8 bits that stand so many characters from the last one. */
    private static int codeAt(long characters, int fromLast) {
        return (int) ((characters >>> (8 * fromLast)) & 255L);
    }

    /** How many characters there are in the number; 0 if it is none that can be put. */
    private static int charactersIn(long characters) {
        for (int i = 0; i < MOST_PUT; i++) {
            if (codeAt(characters, i) == 0) {
                return characters >>> (8 * i) == 0L ? i : 0;
            }
            if (!isWithin(codeAt(characters, i), LEAST_CODE, MOST_CODE)) {
                return 0;
            }
        }
        return MOST_PUT;
    }

    /** The steps of a house, the lowest one first. */
    private static final class Stairs {
        private final int[] risers = new int[MOST_STEPS];
        private final int[] treads = new int[MOST_STEPS];
        // How far the foot of each step is from that of the lowest one, and behind the last step the whole length.
        private final int[] feet = new int[MOST_STEPS + 1];
        private int steps = 0;

        private void becomeStairs(Stairs other) {
            copyNumbers(other.risers, risers);
            copyNumbers(other.treads, treads);
            copyNumbers(other.feet, feet);
            steps = other.steps;
        }

        private void addAll(Stairs other) {
            int added = other.steps;
            for (int i = 0; i < added; i++) {
                addStep(other.riserOf(i), other.treadOf(i));
            }
        }

        private void addStep(int riser, int tread) {
            if (steps >= 0 && steps < risers.length && steps < treads.length && steps + 1 < feet.length) {
                risers[steps] = riser;
                treads[steps] = tread;
                feet[steps + 1] = feet[steps] + riser + tread;
                steps++;
            }
        }

        private boolean has(int step) {
            return step >= 0 && step < steps;
        }

        private int riserOf(int step) {
            return numberAt(risers, step);
        }

        private int treadOf(int step) {
            return numberAt(treads, step);
        }

        private int lengthOf(int step) {
            return riserOf(step) + treadOf(step);
        }

        private int lengthBelow(int step) {
            return numberAt(feet, step);
        }

        private int wholeLength() {
            return numberAt(feet, steps);
        }

        private int lengthFrom(int step) {
            return numberAt(feet, steps) - numberAt(feet, step);
        }
    }

    /** A crew, and what it has of its piece. */
    private static final class Crew {
        private final boolean fromBelow;
        private int beginning = 0;
        private int laid = 0;
        private int left = 0;
        private int pieces = 0;
        private int trims = 0;

        private Crew(boolean fromBelow) {
            this.fromBelow = fromBelow;
        }

        private void becomeCrew(Crew other) {
            beginning = other.beginning;
            laid = other.laid;
            left = other.left;
            pieces = other.pieces;
            trims = other.trims;
        }

        private void beginAnew() {
            laid = 0;
            left = 0;
            pieces = 0;
            trims = 0;
        }

        private int seams() {
            return Math.max(0, pieces - 1);
        }
    }

    /** All that undo and the slots keep: settings, stairs and crews. */
    private static final class House {
        private int repeat = FIRST_REPEAT;
        private int roll = FIRST_ROLL;
        private int slack = FIRST_SLACK;
        private final Stairs stairs = new Stairs();
        private final Crew lower = new Crew(true);
        private final Crew upper = new Crew(false);

        private void becomeHouse(House other) {
            repeat = other.repeat;
            roll = other.roll;
            slack = other.slack;
            stairs.becomeStairs(other.stairs);
            lower.becomeCrew(other.lower);
            upper.becomeCrew(other.upper);
        }

        private void takeAllUp() {
            lower.beginAnew();
            upper.beginAnew();
        }

        private Crew crewOf(int number) {
            if (number == 0) {
                return lower;
            }
            return number == 1 ? upper : null;
        }

        private boolean hasTakenPiece() {
            return lower.pieces > 0 || upper.pieces > 0;
        }

        private int stepsLaid() {
            return lower.laid + upper.laid;
        }

        private int lengthLaid() {
            return stairs.lengthBelow(lower.laid) + stairs.lengthFrom(lowestOfUpper());
        }

        private int carpetTaken() {
            return (lower.pieces + upper.pieces) * roll;
        }

        private int allTrims() {
            return lower.trims + upper.trims;
        }

        /** The lowest step of the upper crew, or how many steps there are if it laid none. */
        private int lowestOfUpper() {
            return stairs.steps - upper.laid;
        }

        private boolean isLaid(int step) {
            return step < lower.laid || step >= lowestOfUpper();
        }

        private int layerOf(int step) {
            if (step < lower.laid) {
                return 0;
            }
            return isLaid(step) ? 1 : NONE;
        }

        private int nextStepOf(Crew who) {
            if (stepsLaid() >= stairs.steps) {
                return NONE;
            }
            return who.fromBelow ? lower.laid : lowestOfUpper() - 1;
        }

        /** The place of the pattern at the foot of a step, if the lower crew lays all below. */
        private int placeFromBelow(int step) {
            return leftOver(lower.beginning + stairs.lengthBelow(step), repeat);
        }

        /** The place of the pattern at the foot of a step, if the upper crew lays it and all above. */
        private int placeFromAbove(int step) {
            return leftOver(upper.beginning - stairs.lengthFrom(step), repeat);
        }

        private int phaseOf(int step) {
            return step < lower.laid ? placeFromBelow(step) : placeFromAbove(step);
        }

        private int endOf(int step) {
            return leftOver(phaseOf(step) + stairs.lengthOf(step), repeat);
        }

        /** How often the pattern starts on a step: at its foot counted, at its end not. */
        private int patternStartsOn(int step) {
            int starts = 0;
            int place = phaseOf(step);
            int length = stairs.lengthOf(step);
            for (int i = 0; i < length; i++) {
                if (leftOver(place + i, repeat) == 0) {
                    starts++;
                }
            }
            return starts;
        }

        /** The place of the pattern at the side of the next step from which the crew comes. */
        private int placeToBegin(Crew who) {
            return who.fromBelow ? placeFromBelow(lower.laid) : placeFromAbove(lowestOfUpper());
        }

        /** What the crew cuts off a piece of which so much is left, until the place lies at the side that it uses. */
        private int cutOff(Crew who, int left, int place) {
            // The lower crew used the piece from its beginning, so what is gone tells the place there;
            // the upper crew used it from its end, so what is left tells the place there.
            return who.fromBelow ? leftOver(place - (roll - left), repeat) : leftOver(left - place, repeat);
        }

        private boolean canLayNext(Crew who) {
            int next = nextStepOf(who);
            if (next == NONE) {
                return false;
            }
            int length = stairs.lengthOf(next);
            int place = placeToBegin(who);
            return cutOff(who, who.left, place) + length <= who.left || cutOff(who, roll, place) + length <= roll;
        }

        /** Only after canLayNext. */
        private void layNext(Crew who) {
            int length = stairs.lengthOf(nextStepOf(who));
            int place = placeToBegin(who);
            if (cutOff(who, who.left, place) + length > who.left) {
                who.trims += who.left;
                who.left = roll;
                who.pieces++;
            }
            int cut = cutOff(who, who.left, place);
            who.trims += cut;
            who.left -= cut + length;
            who.laid++;
        }

        private int takeUpLatest(Crew who) {
            int latest = who.fromBelow ? lower.laid - 1 : lowestOfUpper();
            who.trims += stairs.lengthOf(latest);
            who.laid--;
            return latest;
        }

        private boolean doCrewsMeet() {
            return lower.laid > 0 && upper.laid > 0 && stepsLaid() == stairs.steps;
        }

        /** The lesser of both ways around the pattern. */
        private int differenceOf(int one, int other) {
            int way = leftOver(one - other, repeat);
            return Math.min(way, repeat - way);
        }

        private int differenceBelow(int step) {
            return differenceOf(placeFromBelow(step), placeFromAbove(step));
        }

        private int inPhaseBelow(int step) {
            return differenceBelow(step) <= slack ? 1 : 0;
        }

        private int differenceStepByStep(int step) {
            int below = lower.beginning;
            for (int i = 0; i < step; i++) {
                below = leftOver(below + stairs.lengthOf(i), repeat);
            }
            int above = upper.beginning;
            for (int i = stairs.steps - 1; i >= step; i--) {
                above = leftOver(above - stairs.lengthOf(i), repeat);
            }
            return differenceOf(below, above);
        }

        private int differenceAtOnce() {
            return differenceOf(lower.beginning + stairs.wholeLength(), upper.beginning);
        }
    }

    /** The states ahead of the latest changes; rows that are used again in turn. */
    private static final class History {
        private final House[] states = new House[MOST_UNDOABLE];
        private int next = 0;
        private int kept = 0;

        private History() {
            for (int i = 0; i < states.length; i++) {
                states[i] = new House();
            }
        }

        private void keep(House state) {
            copyHouse(state, houseAt(states, next));
            next = next + 1 < MOST_UNDOABLE ? next + 1 : 0;
            kept = Math.min(kept + 1, MOST_UNDOABLE);
        }

        private void bringBack(House state) {
            if (kept > 0) {
                next = next > 0 ? next - 1 : MOST_UNDOABLE - 1;
                kept--;
                copyHouse(houseAt(states, next), state);
            }
        }
    }

    /** A saved state. */
    private static final class Slot {
        private final House house = new House();
        private boolean isFilled = false;
    }

    /** The text that is put. */
    private static final class Pad {
        private final int[] codes = new int[MOST_CHARACTERS];
        private int length = 0;

        private void append(int code) {
            if (length >= 0 && length < codes.length) {
                codes[length] = code;
                length++;
            }
        }

        /** The code at an index, 0 at the end of the text. */
        private int codeOf(int index) {
            return index < length ? numberAt(codes, index) : 0;
        }
    }

    /** The stairs that a text tells, read from left to right; it stops where a character cannot stand. */
    private static final class Plan {
        private static final int MOST_DIGITS = 2;

        private final Stairs stairs = new Stairs();
        private int stepsWanted = 0;
        private int place = 0;

        /** Returns the fault of the pad, or NONE; then the stairs are known, if they are not too many. */
        private int readFrom(Pad pad) {
            place = 0;
            stairs.steps = 0;
            stepsWanted = 0;
            for (int flight = 0; flight < MOST_CHARACTERS; flight++) {
                if (!readFlight(pad)) {
                    return place;
                }
                if (place == pad.length) {
                    return NONE;
                }
                if (!readSign(pad, ';')) {
                    return place;
                }
            }
            return place;
        }

        private boolean readFlight(Pad pad) {
            int alike = 1;
            // Only the sign behind it tells whether the first number is one of steps or a riser.
            int riser = readNumber(pad, LEAST_ALIKE, MOST_RISER);
            if (isWithin(riser, LEAST_ALIKE, MOST_ALIKE) && readSign(pad, '*')) {
                alike = riser;
                riser = readNumber(pad, LEAST_RISER, MOST_RISER);
            }
            if (!isWithin(riser, LEAST_RISER, MOST_RISER) || !readSign(pad, '/')) {
                return false;
            }
            int tread = readNumber(pad, LEAST_TREAD, MOST_TREAD);
            if (!isWithin(tread, LEAST_TREAD, MOST_TREAD)) {
                return false;
            }
            addSteps(alike, riser, tread);
            return true;
        }

        private void addSteps(int alike, int riser, int tread) {
            stepsWanted += alike;
            for (int i = 0; i < alike; i++) {
                stairs.addStep(riser, tread);
            }
        }

        private boolean readSign(Pad pad, int sign) {
            if (pad.codeOf(place) != sign) {
                return false;
            }
            place++;
            return true;
        }

        /** Reads digits as long as they can become a number of the range, and returns what they are (0 for none). */
        private int readNumber(Pad pad, int least, int most) {
            int number = 0;
            for (int i = 0; i < MOST_DIGITS; i++) {
                int code = pad.codeOf(place);
                if (!isWithin(code, '0', '9') || !canBecome(number * 10 + code - '0', least, most)) {
                    return number;
                }
                number = number * 10 + code - '0';
                place++;
            }
            return number;
        }

        private static boolean canBecome(int number, int least, int most) {
            return number > 0 && (isWithin(number, least, most) || number * 10 <= most && number * 10 + 9 >= least);
        }
    }
}
