import java.util.ArrayList;
import java.util.Arrays;
import java.util.NoSuchElementException;

/** A pond of machines that may never stop. The document in shared/DOC.md tells what each call promises. */
public final class BeaverPond {
    private static final int MOST_MACHINES = 200;
    private static final int MOST_LETTERS = 60;
    private static final int LONGEST_RUN = 2000;
    private static final int LONGEST_LISTED_RUN = 200;
    private static final int STEPS_TO_DOUBT_A_PROOF = 500;

    private final ArrayList<Machine> machines = new ArrayList<Machine>();
    private final StringBuilder typed = new StringBuilder();
    private final Walker lastRun = new Walker();
    private final Walker trial = new Walker();
    private final Trail trail = new Trail(trial);
    private final Backward backward = new Backward();
    private final Near near = new Near();
    private final Listing listing = new Listing(trial);
    private boolean hasRun;
    private boolean hasListing;

    public BeaverPond() {
    }

    // ---- machines and codes

    public int machine(int states, int signs) throws IllegalArgumentException, IllegalStateException {
        if (!Machine.canHave(states, signs)) {
            throw new IllegalArgumentException("1 to 4 states and 2 or 3 signs");
        }
        if (isFull()) {
            throw new IllegalStateException("there are 200 machines");
        }
        return added(new Machine(states, signs, Table.EMPTY));
    }

    public boolean move(int machine, int state, int sign, int write, boolean toRight, int next)
            throws IndexOutOfBoundsException, IllegalArgumentException {
        Machine changed = numbered(machine);
        if (!changed.hasState(state) || !changed.hasSign(sign) || !changed.hasSign(write)) {
            throw new IllegalArgumentException("no such state or sign");
        }
        if (next != Table.STOP && !changed.hasState(next)) {
            throw new IllegalArgumentException("no such next state");
        }
        return changed.replace(state, sign, Table.packed(write, toRight, next));
    }

    public boolean unset(int machine, int state, int sign) throws IndexOutOfBoundsException, IllegalArgumentException {
        Machine changed = numbered(machine);
        if (!changed.hasState(state) || !changed.hasSign(sign)) {
            throw new IllegalArgumentException("no such state or sign");
        }
        return changed.replace(state, sign, Table.NO_MOVE);
    }

    public int type(char letter) throws IllegalArgumentException, IllegalStateException {
        if (!Code.hasLetter(letter)) {
            throw new IllegalArgumentException("a letter of no code");
        }
        if (typed.length() >= MOST_LETTERS) {
            throw new IllegalStateException("60 letters are typed");
        }
        typed.append(letter);
        return typed.length();
    }

    public int wipe() {
        int count = typed.length();
        typed.setLength(0);
        return count;
    }

    public int read() throws IllegalArgumentException, IllegalStateException {
        Machine told = Code.machineOf(typed);
        if (told == null) {
            throw new IllegalArgumentException("what is typed is no code");
        }
        if (isFull()) {
            throw new IllegalStateException("there are 200 machines");
        }
        typed.setLength(0);
        return added(told);
    }

    public char code(int machine, int index) throws IndexOutOfBoundsException {
        Machine coded = numbered(machine);
        if (index < 0 || index >= Code.lengthFor(coded.states, coded.signs)) {
            throw new IndexOutOfBoundsException("no such letter");
        }
        return Code.letterOf(coded, index);
    }

    public boolean areAlike(int machine, int other) throws IndexOutOfBoundsException {
        return Likeness.joins(numbered(machine), numbered(other));
    }

    // ---- runs

    public int run(int machine, int steps) throws IndexOutOfBoundsException, IllegalArgumentException {
        Machine chosen = numbered(machine);
        if (steps < 0 || steps > LONGEST_RUN) {
            throw new IllegalArgumentException("0 to 2000 steps");
        }
        lastRun.go(chosen.table, steps);
        hasRun = true;
        if (lastRun.stopped) {
            chosen.learnToStop(lastRun.steps);
        }
        return lastRun.steps;
    }

    public char outcome() throws NoSuchElementException {
        needRun();
        if (lastRun.stopped) {
            return 's';
        }
        return lastRun.isStuck() ? 'k' : 'g';
    }

    public int marks() throws NoSuchElementException {
        needRun();
        return lastRun.countMarks();
    }

    public int space() throws NoSuchElementException {
        needRun();
        return lastRun.highest - lastRun.lowest + 1;
    }

    public int rows() throws NoSuchElementException {
        needRun();
        return lastRun.countRunsOfSigns();
    }

    public int sign(int place) throws NoSuchElementException {
        needRun();
        return lastRun.signAt(place);
    }

    public int head() throws NoSuchElementException {
        needRun();
        return lastRun.place;
    }

    // ---- proofs

    public boolean prove(int machine, char way, int bound) throws IndexOutOfBoundsException, IllegalArgumentException {
        Machine doubted = numbered(machine);
        if (bound < 1 || bound > greatestBound(way)) {
            throw new IllegalArgumentException("no such way, or the bound is out of range");
        }
        if (doubted.known == Machine.UNKNOWN) {
            tryWay(doubted, way, bound);
        }
        return doubted.isToldNeverToStop();
    }

    public char known(int machine) throws IndexOutOfBoundsException {
        return numbered(machine).known;
    }

    public int certificate(int machine, int index) throws IndexOutOfBoundsException, NoSuchElementException {
        Machine asked = numbered(machine);
        if (index < 0 || index >= asked.numbers) {
            throw new NoSuchElementException("no such number");
        }
        return asked.numberAt(index);
    }

    public boolean check(int machine) throws IndexOutOfBoundsException, NoSuchElementException {
        Machine asked = numbered(machine);
        if (asked.known == Machine.UNKNOWN) {
            throw new NoSuchElementException("nothing is known");
        }
        return isRight(asked);
    }

    // ---- listing and records

    public int list(int states, int signs, int steps) throws IllegalArgumentException {
        if (!Machine.canHave(states, signs) || steps < 1 || steps > LONGEST_LISTED_RUN) {
            throw new IllegalArgumentException("a number is out of range");
        }
        listing.begin(states, signs, steps);
        hasListing = true;
        return listing.height;
    }

    public int next() throws NoSuchElementException, IllegalStateException {
        if (!hasListing) {
            throw new NoSuchElementException("there is no listing");
        }
        if (isFull()) {
            throw new IllegalStateException("there are 200 machines");
        }
        return listing.height == 0 ? -1 : added(listing.takeNext());
    }

    public int record(int states, int signs) throws NoSuchElementException {
        int best = -1;
        int mostSteps = -1;
        for (int number = 0; number < machines.size(); number++) {
            Machine each = machines.get(number);
            if (each.isSized(states, signs) && each.known == Machine.STOPS && each.first > mostSteps) {
                best = number;
                mostSteps = each.first;
            }
        }
        if (best < 0) {
            throw new NoSuchElementException("none is known to stop");
        }
        return best;
    }

    public int undecided(int states, int signs) {
        int count = 0;
        for (int number = 0; number < machines.size(); number++) {
            Machine each = machines.get(number);
            if (each.isSized(states, signs) && each.known == Machine.UNKNOWN) {
                count++;
            }
        }
        return count;
    }

    // ---- figures

    public float knownShare() throws ArithmeticException {
        int all = machines.size();
        if (all == 0) {
            throw new ArithmeticException("there are no machines");
        }
        int count = 0;
        for (int number = 0; number < all; number++) {
            if (machines.get(number).known != Machine.UNKNOWN) {
                count++;
            }
        }
        return (float) count / (float) all;
    }

    public double meanSteps() throws ArithmeticException {
        int sum = 0;
        int count = 0;
        for (int number = 0; number < machines.size(); number++) {
            Machine each = machines.get(number);
            if (each.known == Machine.STOPS) {
                sum += each.first;
                count++;
            }
        }
        if (count == 0) {
            throw new ArithmeticException("none is known to stop");
        }
        return (double) sum / (double) count;
    }

    public boolean isSound() {
        for (int number = 0; number < machines.size(); number++) {
            Machine each = machines.get(number);
            if (each.known != Machine.UNKNOWN && !isRight(each)) {
                return false;
            }
            if (each.isToldNeverToStop() && endsSoon(each)) {
                return false;
            }
        }
        return true;
    }

    private Machine numbered(int number) {
        if (number < 0 || number >= machines.size()) {
            throw new IndexOutOfBoundsException("no such machine");
        }
        return machines.get(number);
    }

    private boolean isFull() {
        return machines.size() >= MOST_MACHINES;
    }

    private int added(Machine machine) {
        machines.add(machine);
        return machines.size() - 1;
    }

    private void needRun() {
        if (!hasRun) {
            throw new NoSuchElementException("there was no run");
        }
    }

    // A way that there is not has the bound 0, so that every bound is out of its range.
    private static int greatestBound(char way) {
        if (way == Machine.CIRCLES || way == Machine.TRAVELS) {
            return Trail.LONGEST;
        }
        if (way == Machine.HAS_NO_PAST) {
            return Backward.LAST_ROW;
        }
        return way == Machine.STAYS_NEAR ? Near.LONGEST_ROW : 0;
    }

    private void tryWay(Machine machine, char way, int bound) {
        if (way == Machine.CIRCLES && trail.findsCircle(machine.table, bound)) {
            machine.learn(way, 2, trail.earlier, trail.later, 0);
        }
        if (way == Machine.TRAVELS && trail.findsTravel(machine.table, bound)) {
            machine.learn(way, 3, trail.earlier, trail.later, trail.back);
        }
        if (way == Machine.HAS_NO_PAST) {
            int row = backward.firstEmptyRow(machine, bound);
            if (row != Backward.FAILED) {
                machine.learn(way, 1, row, 0, 0);
            }
        }
        if (way == Machine.STAYS_NEAR) {
            int pictures = near.countPictures(machine, bound);
            if (pictures != Near.FAILED) {
                machine.learn(way, 2, pictures, bound, 0);
            }
        }
    }

    private boolean isRight(Machine machine) {
        if (machine.known == Machine.STOPS) {
            trial.go(machine.table, machine.first);
            return trial.stopped && trial.steps == machine.first;
        }
        if (machine.known == Machine.CIRCLES) {
            return trail.isCircle(machine.table, machine.first, machine.second);
        }
        if (machine.known == Machine.TRAVELS) {
            return trail.isTravel(machine.table, machine.first, machine.second, machine.third);
        }
        if (machine.known == Machine.HAS_NO_PAST) {
            return backward.firstEmptyRow(machine, machine.first) == machine.first;
        }
        return near.countPictures(machine, machine.second) == machine.first;
    }

    private boolean endsSoon(Machine machine) {
        trial.go(machine.table, STEPS_TO_DOUBT_A_PROOF);
        return trial.stopped || trial.isStuck();
    }

    // A table is one number, five bits for each state and sign: a pile of tables needs no objects then,
    // and two tables are the same if their numbers are.
    private static final class Table {
        static final long EMPTY = 0L;
        static final int NO_MOVE = 0;
        static final int STOP = -1;
        static final int MOST_STATES = 4;
        static final int MOST_SIGNS = 3;
        static final int CELLS = MOST_STATES * MOST_SIGNS;
        private static final int BITS = 5;
        private static final long MASK = 31L;
        private static final int NEXT_STATES = 5;

        static int packed(int write, boolean toRight, int next) {
            return 1 + (write * 2 + (toRight ? 1 : 0)) * NEXT_STATES + (next - STOP);
        }

        static int written(int move) {
            return (move - 1) / (2 * NEXT_STATES);
        }

        static boolean goesRight(int move) {
            return ((move - 1) / NEXT_STATES) % 2 == 1;
        }

        static int comesTo(int move) {
            return (move - 1) % NEXT_STATES + STOP;
        }

        static boolean goesOn(int move) {
            return move != NO_MOVE && comesTo(move) != STOP;
        }

        static int moveAt(long table, int state, int sign) {
            return (int) ((table >>> (BITS * (state * MOST_SIGNS + sign))) & MASK);
        }

        static long with(long table, int state, int sign, int move) {
            int shift = BITS * (state * MOST_SIGNS + sign);
            return (table & ~(MASK << shift)) | ((long) move << shift);
        }
    }

    private static final class Machine {
        static final char UNKNOWN = '?';
        static final char STOPS = 's';
        static final char CIRCLES = 'c';
        static final char TRAVELS = 't';
        static final char HAS_NO_PAST = 'b';
        static final char STAYS_NEAR = 'n';

        final int states;
        final int signs;
        long table;
        char known = UNKNOWN;
        int numbers;
        int first;
        int second;
        int third;

        Machine(int states, int signs, long table) {
            this.states = states;
            this.signs = signs;
            this.table = table;
        }

        static boolean canHave(int states, int signs) {
            return states >= 1 && states <= Table.MOST_STATES && signs >= 2 && signs <= Table.MOST_SIGNS;
        }

        boolean hasState(int state) {
            return state >= 0 && state < states;
        }

        boolean hasSign(int sign) {
            return sign >= 0 && sign < signs;
        }

        boolean isSized(int toldStates, int toldSigns) {
            return states == toldStates && signs == toldSigns;
        }

        boolean replace(int state, int sign, int move) {
            boolean hadMove = Table.moveAt(table, state, sign) != Table.NO_MOVE;
            table = Table.with(table, state, sign, move);
            learn(UNKNOWN, 0, 0, 0, 0);
            return hadMove;
        }

        void learn(char what, int count, int one, int two, int three) {
            known = what;
            numbers = count;
            first = one;
            second = two;
            third = three;
        }

        void learnToStop(int steps) {
            learn(STOPS, 1, steps, 0, 0);
        }

        boolean isToldNeverToStop() {
            return known != UNKNOWN && known != STOPS;
        }

        int numberAt(int index) {
            if (index == 0) {
                return first;
            }
            return index == 1 ? second : third;
        }
    }

    private static final class Code {
        private static final int WRONG = -1;

        static boolean hasLetter(char letter) {
            return (letter >= '0' && letter <= '2') || (letter >= 'A' && letter <= 'D')
                || letter == 'L' || letter == 'R' || letter == 'H' || letter == '-' || letter == '_';
        }

        static int lengthFor(int states, int signs) {
            return states * (3 * signs + 1) - 1;
        }

        static char letterOf(Machine machine, int index) {
            int stateLetters = 3 * machine.signs;
            int state = 0;
            int rest = index;
            while (state < machine.states && rest > stateLetters) {
                rest -= stateLetters + 1;
                state++;
            }
            if (rest == stateLetters) {
                return '_';
            }
            return letterOfMove(Table.moveAt(machine.table, state, rest / 3), rest % 3);
        }

        private static char letterOfMove(int move, int part) {
            if (move == Table.NO_MOVE) {
                return '-';
            }
            if (part == 0) {
                return (char) ('0' + Table.written(move));
            }
            if (part == 1) {
                return Table.goesRight(move) ? 'R' : 'L';
            }
            int next = Table.comesTo(move);
            return next == Table.STOP ? 'H' : (char) ('A' + next);
        }

        // No two sizes have codes of the same length, so the length alone tells the size.
        static Machine machineOf(StringBuilder text) {
            for (int states = 1; states <= Table.MOST_STATES; states++) {
                for (int signs = 2; signs <= Table.MOST_SIGNS; signs++) {
                    if (text.length() == lengthFor(states, signs)) {
                        return machineOfSize(text, states, signs);
                    }
                }
            }
            return null;
        }

        private static Machine machineOfSize(StringBuilder text, int states, int signs) {
            long table = Table.EMPTY;
            int index = 0;
            for (int state = 0; state < states; state++) {
                if (state > 0) {
                    if (letterAt(text, index) != '_') {
                        return null;
                    }
                    index++;
                }
                for (int sign = 0; sign < signs; sign++) {
                    int move = moveTold(text, index, states, signs);
                    if (move == WRONG) {
                        return null;
                    }
                    table = Table.with(table, state, sign, move);
                    index += 3;
                }
            }
            return new Machine(states, signs, table);
        }

        private static int moveTold(StringBuilder text, int index, int states, int signs) {
            char write = letterAt(text, index);
            char side = letterAt(text, index + 1);
            char next = letterAt(text, index + 2);
            if (write == '-' && side == '-' && next == '-') {
                return Table.NO_MOVE;
            }
            if (write < '0' || write >= '0' + signs || (side != 'L' && side != 'R')) {
                return WRONG;
            }
            if (next == 'H') {
                return Table.packed(write - '0', side == 'R', Table.STOP);
            }
            if (next < 'A' || next >= 'A' + states) {
                return WRONG;
            }
            return Table.packed(write - '0', side == 'R', next - 'A');
        }

        private static char letterAt(StringBuilder text, int index) {
            return index >= 0 && index < text.length() ? text.charAt(index) : ' ';
        }
    }

    private static final class Likeness {
        // The names of the states 1, 2 and 3 are 1, 2 and 3 in some order, so two of them tell the last one.
        private static final int SUM_OF_NAMES = 1 + 2 + 3;

        static boolean joins(Machine one, Machine other) {
            if (!one.isSized(other.states, other.signs)) {
                return false;
            }
            for (int second = 1; second < Table.MOST_STATES; second++) {
                for (int third = 1; third < Table.MOST_STATES; third++) {
                    int fourth = SUM_OF_NAMES - second - third;
                    if (second != third && joinsByNames(one, other, second, third, fourth)) {
                        return true;
                    }
                }
            }
            return false;
        }

        private static boolean joinsByNames(Machine one, Machine other, int second, int third, int fourth) {
            for (int state = 1; state < one.states; state++) {
                if (nameOf(state, second, third, fourth) >= one.states) {
                    return false;
                }
            }
            return renamed(one, false, second, third, fourth) == other.table
                || renamed(one, true, second, third, fourth) == other.table;
        }

        private static long renamed(Machine machine, boolean mirrored, int second, int third, int fourth) {
            long table = Table.EMPTY;
            for (int state = 0; state < machine.states; state++) {
                int name = nameOf(state, second, third, fourth);
                for (int sign = 0; sign < machine.signs; sign++) {
                    int move = Table.moveAt(machine.table, state, sign);
                    if (move != Table.NO_MOVE) {
                        boolean toRight = Table.goesRight(move) != mirrored;
                        int next = nameOf(Table.comesTo(move), second, third, fourth);
                        table = Table.with(table, name, sign, Table.packed(Table.written(move), toRight, next));
                    }
                }
            }
            return table;
        }

        // The state 0 and the stop keep their names.
        private static int nameOf(int state, int second, int third, int fourth) {
            if (state == 1) {
                return second;
            }
            if (state == 2) {
                return third;
            }
            return state == 3 ? fourth : state;
        }
    }

    private static final class Walker {
        private final int[] tape = new int[2 * LONGEST_RUN + 1];
        private long table;
        private int nextMove;
        int state;
        int place;
        int steps;
        int lowest;
        int highest;
        boolean stopped;

        void begin(long newTable) {
            // Only where the machine stood can a sign be left from the run ahead of this.
            for (int used = lowest; used <= highest; used++) {
                write(used, 0);
            }
            table = newTable;
            nextMove = Table.moveAt(table, 0, 0);
            state = 0;
            place = 0;
            steps = 0;
            lowest = 0;
            highest = 0;
            stopped = false;
        }

        void go(long newTable, int mostSteps) {
            begin(newTable);
            for (int step = 0; step < mostSteps; step++) {
                if (!goOn()) {
                    return;
                }
            }
        }

        boolean goOn() {
            if (nextMove == Table.NO_MOVE || steps >= LONGEST_RUN) {
                return false;
            }
            write(place, Table.written(nextMove));
            place += Table.goesRight(nextMove) ? 1 : -1;
            lowest = Math.min(lowest, place);
            highest = Math.max(highest, place);
            steps++;
            if (Table.goesOn(nextMove)) {
                state = Table.comesTo(nextMove);
                nextMove = Table.moveAt(table, state, signAt(place));
            } else {
                stopped = true;
                nextMove = Table.NO_MOVE;
            }
            return true;
        }

        boolean isStuck() {
            return !stopped && nextMove == Table.NO_MOVE;
        }

        int signAt(int where) {
            return where < -LONGEST_RUN || where > LONGEST_RUN ? 0 : tape[where + LONGEST_RUN];
        }

        private void write(int where, int sign) {
            if (where >= -LONGEST_RUN && where <= LONGEST_RUN) {
                tape[where + LONGEST_RUN] = sign;
            }
        }

        int countMarks() {
            int count = 0;
            for (int where = lowest; where <= highest; where++) {
                if (signAt(where) != 0) {
                    count++;
                }
            }
            return count;
        }

        int countRunsOfSigns() {
            int begun = 0;
            int upToLastMark = 0;
            int previous = 0;
            for (int where = lowest; where <= highest; where++) {
                int sign = signAt(where);
                if (sign != previous) {
                    begun++;
                    previous = sign;
                }
                if (sign != 0) {
                    upToLastMark = begun;
                }
            }
            return upToLastMark;
        }
    }

    // The steps of a run, kept so that the tape can be brought back to what it was behind any earlier one.
    private static final class Trail {
        static final int LONGEST = 300;
        private static final int TO_RIGHT = 1;
        private static final int TO_LEFT = 2;

        private final Walker walker;
        private final int[] states = new int[LONGEST + 1];
        private final int[] places = new int[LONGEST + 1];
        private final int[] found = new int[LONGEST + 1];
        private final int[] newSides = new int[LONGEST + 1];
        private final int[] past = new int[2 * LONGEST + 1];
        int earlier;
        int later;
        int back;

        Trail(Walker walker) {
            this.walker = walker;
        }

        boolean findsCircle(long table, int bound) {
            begin(table);
            for (int step = 1; step <= bound; step++) {
                if (!goOn()) {
                    return false;
                }
                if (isBackInCircle()) {
                    return true;
                }
            }
            return false;
        }

        boolean findsTravel(long table, int bound) {
            begin(table);
            for (int step = 1; step <= bound; step++) {
                if (!goOn()) {
                    return false;
                }
                if (newSides[later] != 0 && isBackInTravel(newSides[later])) {
                    return true;
                }
            }
            return false;
        }

        boolean isCircle(long table, int toldEarlier, int toldLater) {
            return reaches(table, toldEarlier, toldLater) && places[earlier] == places[later]
                && states[earlier] == states[later] && isTapeAsInPast();
        }

        boolean isTravel(long table, int toldEarlier, int toldLater, int toldBack) {
            if (!reaches(table, toldEarlier, toldLater) || states[earlier] != states[later]) {
                return false;
            }
            int side = newSides[earlier] & newSides[later];
            return side != 0 && wayBack(side) == toldBack && areSignsAsInPast(side, toldBack);
        }

        private void begin(long table) {
            walker.begin(table);
            later = 0;
            states[0] = 0;
            places[0] = 0;
            newSides[0] = TO_RIGHT | TO_LEFT;
        }

        private boolean goOn() {
            int lowest = walker.lowest;
            int highest = walker.highest;
            int sign = walker.signAt(walker.place);
            if (later >= LONGEST || !walker.goOn() || walker.stopped) {
                return false;
            }
            later++;
            found[later] = sign;
            states[later] = walker.state;
            places[later] = walker.place;
            newSides[later] = walker.place > highest ? TO_RIGHT : walker.place < lowest ? TO_LEFT : 0;
            return true;
        }

        private boolean isBackInCircle() {
            beginBack();
            int differing = 0;
            for (int step = later; step > 0; step--) {
                int place = places[step - 1];
                differing -= differenceAt(place);
                goBack();
                differing += differenceAt(place);
                if (differing == 0 && place == places[later] && states[earlier] == states[later]) {
                    return true;
                }
            }
            return false;
        }

        private boolean isBackInTravel(int side) {
            beginBack();
            for (int step = later; step > 0; step--) {
                goBack();
                if ((newSides[earlier] & side) != 0 && states[earlier] == states[later]) {
                    back = wayBack(side);
                    if (areSignsAsInPast(side, back)) {
                        return true;
                    }
                }
            }
            return false;
        }

        private boolean reaches(long table, int toldEarlier, int toldLater) {
            begin(table);
            for (int step = 0; step < toldLater; step++) {
                if (!goOn()) {
                    return false;
                }
            }
            beginBack();
            for (int step = toldLater; step > toldEarlier; step--) {
                goBack();
            }
            return earlier == toldEarlier && earlier < later;
        }

        private void beginBack() {
            for (int place = walker.lowest; place <= walker.highest; place++) {
                setPast(place, walker.signAt(place));
            }
            earlier = later;
        }

        private void goBack() {
            if (earlier > 0) {
                setPast(places[earlier - 1], found[earlier]);
                earlier--;
            }
        }

        private int pastSignAt(int place) {
            return place < -LONGEST || place > LONGEST ? 0 : past[place + LONGEST];
        }

        private void setPast(int place, int sign) {
            if (place >= -LONGEST && place <= LONGEST) {
                past[place + LONGEST] = sign;
            }
        }

        private int differenceAt(int place) {
            return pastSignAt(place) == walker.signAt(place) ? 0 : 1;
        }

        private boolean isTapeAsInPast() {
            for (int place = walker.lowest; place <= walker.highest; place++) {
                if (differenceAt(place) != 0) {
                    return false;
                }
            }
            return true;
        }

        private int wayBack(int side) {
            int farthest = 0;
            for (int step = earlier; step <= later; step++) {
                int ahead = places[step] - places[earlier];
                farthest = Math.max(farthest, side == TO_RIGHT ? -ahead : ahead);
            }
            return farthest;
        }

        private boolean areSignsAsInPast(int side, int distance) {
            int turned = side == TO_RIGHT ? -1 : 1;
            for (int away = 0; away <= distance; away++) {
                int past = pastSignAt(places[earlier] + turned * away);
                if (past != walker.signAt(places[later] + turned * away)) {
                    return false;
                }
            }
            return true;
        }
    }

    // What is known in a row: two bits a place, 0 for an unknown sign, else the sign and one.
    // The rights begin with the place of the machine, the lefts beside it: 31 places at most, as rows go to 30.
    private static final class Row {
        private static final int MOST = 100;
        private static final long NOT_BLANK = 0xAAAAAAAAAAAAAAAAL;

        final int[] states = new int[MOST];
        final long[] lefts = new long[MOST];
        final long[] rights = new long[MOST];
        int count;

        boolean canTake(int state, long left, long right) {
            if (state == 0 && ((left | right) & NOT_BLANK) == 0L) {
                return false;
            }
            for (int index = 0; index < count; index++) {
                if (states[index] == state && lefts[index] == left && rights[index] == right) {
                    return true;
                }
            }
            if (count >= MOST) {
                return false;
            }
            states[count] = state;
            lefts[count] = left;
            rights[count] = right;
            count++;
            return true;
        }
    }

    private static final class Backward {
        static final int FAILED = -1;
        static final int LAST_ROW = 30;
        private static final long SIGN = 3L;

        private Row row = new Row();
        private Row rowBefore = new Row();

        int firstEmptyRow(Machine machine, int bound) {
            if (!canBegin(machine)) {
                return FAILED;
            }
            for (int number = 0; number < bound; number++) {
                if (row.count == 0) {
                    return number;
                }
                if (!canGoBack(machine)) {
                    return FAILED;
                }
            }
            return row.count == 0 ? bound : FAILED;
        }

        private boolean canBegin(Machine machine) {
            row.count = 0;
            for (int state = 0; state < machine.states; state++) {
                for (int sign = 0; sign < machine.signs; sign++) {
                    boolean ends = !Table.goesOn(Table.moveAt(machine.table, state, sign));
                    if (ends && !row.canTake(state, 0L, sign + 1L)) {
                        return false;
                    }
                }
            }
            return true;
        }

        private boolean canGoBack(Machine machine) {
            Row emptied = rowBefore;
            rowBefore = row;
            row = emptied;
            row.count = 0;
            for (int state = 0; state < machine.states; state++) {
                for (int sign = 0; sign < machine.signs; sign++) {
                    int move = Table.moveAt(machine.table, state, sign);
                    if (Table.goesOn(move) && !canUndo(move, state, sign)) {
                        return false;
                    }
                }
            }
            return true;
        }

        private boolean canUndo(int move, int state, int sign) {
            int next = Table.comesTo(move);
            for (int index = 0; index < rowBefore.count; index++) {
                if (rowBefore.states[index] == next && !canUndoAt(index, move, state, sign)) {
                    return false;
                }
            }
            return true;
        }

        private boolean canUndoAt(int index, int move, int state, int sign) {
            long left = rowBefore.lefts[index];
            long right = rowBefore.rights[index];
            boolean toRight = Table.goesRight(move);
            long seen = (toRight ? left : (right >>> 2)) & SIGN;
            if (seen != 0L && seen != Table.written(move) + 1L) {
                return true;
            }
            long found = sign + 1L;
            if (toRight) {
                return row.canTake(state, left >>> 2, (right << 2) | found);
            }
            return row.canTake(state, (left << 2) | (right & SIGN), ((right >>> 4) << 2) | found);
        }
    }

    // A row of signs is a number to the base 4, the nearest sign the lowest one; a picture is one number too.
    // The base is a power of two, though there are three signs at most, so that a mask takes the last sign off.
    private static final class Near {
        static final int FAILED = -1;
        static final int LONGEST_ROW = 4;
        private static final int MOST = 300;
        private static final int SIGNS = 4;
        private static final int ROWS = SIGNS * SIGNS * SIGNS * SIGNS;
        private static final int SLOTS = 1024;
        // Each round but the last one adds a picture.
        private static final int MOST_ROUNDS = MOST + 1;

        private final int[] pictures = new int[MOST];
        private final int[] slots = new int[SLOTS];
        private final boolean[] leftRows = new boolean[ROWS];
        private final boolean[] rightRows = new boolean[ROWS];
        private int count;
        private int lastPlace;

        int countPictures(Machine machine, int length) {
            begin(length);
            int before = 0;
            // A row of signs is added in the round of its picture, so a round without a new picture has no new row.
            for (int round = 0; count > before && round < MOST_ROUNDS; round++) {
                before = count;
                for (int index = 0; index < count && index < MOST; index++) {
                    if (!canFollow(machine, pictures[index])) {
                        return FAILED;
                    }
                }
            }
            return count;
        }

        private void begin(int length) {
            lastPlace = 1;
            for (int place = 1; place < length; place++) {
                lastPlace *= SIGNS;
            }
            count = 0;
            Arrays.fill(slots, 0);
            for (int row = 0; row < ROWS; row++) {
                leftRows[row] = false;
                rightRows[row] = false;
            }
            addRow(leftRows, 0);
            addRow(rightRows, 0);
            canTake(pictureOf(0, 0, 0, 0));
        }

        private boolean canFollow(Machine machine, int picture) {
            int move = Table.moveAt(machine.table, stateIn(picture), signIn(picture));
            if (!Table.goesOn(move)) {
                return false;
            }
            int next = Table.comesTo(move);
            int left = leftIn(picture);
            int right = rightIn(picture);
            if (Table.goesRight(move)) {
                addRow(leftRows, left);
                int newLeft = withFirst(left, Table.written(move));
                for (int sign = 0; sign < machine.signs; sign++) {
                    int newRight = withLast(right, sign);
                    if (hasRow(rightRows, newRight) && !canTake(pictureOf(next, firstOf(right), newLeft, newRight))) {
                        return false;
                    }
                }
            } else {
                addRow(rightRows, right);
                int newRight = withFirst(right, Table.written(move));
                for (int sign = 0; sign < machine.signs; sign++) {
                    int newLeft = withLast(left, sign);
                    if (hasRow(leftRows, newLeft) && !canTake(pictureOf(next, firstOf(left), newLeft, newRight))) {
                        return false;
                    }
                }
            }
            return true;
        }

        private static int pictureOf(int state, int sign, int left, int right) {
            return ((state * SIGNS + sign) * ROWS + left) * ROWS + right;
        }

        private static int stateIn(int picture) {
            return picture / (SIGNS * ROWS * ROWS);
        }

        private static int signIn(int picture) {
            return (picture / (ROWS * ROWS)) % SIGNS;
        }

        private static int leftIn(int picture) {
            return (picture / ROWS) % ROWS;
        }

        private static int rightIn(int picture) {
            return picture % ROWS;
        }

        private static int firstOf(int row) {
            return row % SIGNS;
        }

        private int withFirst(int row, int sign) {
            return (row & (lastPlace - 1)) * SIGNS + sign;
        }

        private int withLast(int row, int sign) {
            return row / SIGNS + sign * lastPlace;
        }

        private static void addRow(boolean[] rows, int row) {
            if (row >= 0 && row < rows.length) {
                rows[row] = true;
            }
        }

        private static boolean hasRow(boolean[] rows, int row) {
            return row >= 0 && row < rows.length && rows[row];
        }

        // A slot holds a picture and one, 0 if it is free; a third of them are used at most.
        private boolean canTake(int picture) {
            int slot = ((picture * 40503) >>> 6) & (SLOTS - 1);
            for (int tried = 0; tried < SLOTS && slots[slot] != 0; tried++) {
                if (slots[slot] == picture + 1) {
                    return true;
                }
                slot = (slot + 1) & (SLOTS - 1);
            }
            if (count >= MOST) {
                return false;
            }
            pictures[count] = picture;
            count++;
            slots[slot] = picture + 1;
            return true;
        }
    }

    private static final class Listing {
        // As many moves as there are cells are given one behind another at most, and each time this many tables
        // are put on the pile: any sign and state, to both sides.
        private static final int MOST_OTHERS = Table.MOST_SIGNS * Table.MOST_STATES * 2;
        private static final int HIGHEST_PILE = Table.CELLS * MOST_OTHERS;

        private final Walker walker;
        private final long[] pile = new long[HIGHEST_PILE];
        private int states;
        private int signs;
        private int steps;
        int height;

        Listing(Walker walker) {
            this.walker = walker;
        }

        void begin(int toldStates, int toldSigns, int toldSteps) {
            states = toldStates;
            signs = toldSigns;
            steps = toldSteps;
            height = 0;
            push(Table.EMPTY);
        }

        Machine takeNext() {
            long table = pop();
            walker.go(table, steps);
            if (!walker.isStuck()) {
                return new Machine(states, signs, table);
            }
            int state = walker.state;
            int sign = walker.signAt(walker.place);
            pushOthers(table, state, sign);
            int stop = Table.packed(1, true, Table.STOP);
            Machine stopping = new Machine(states, signs, Table.with(table, state, sign, stop));
            stopping.learnToStop(walker.steps + 1);
            return stopping;
        }

        // The last one pushed comes off first, so the order of the document is gone through from its end.
        private void pushOthers(long table, int state, int sign) {
            int lastState = Math.min(highestState(table) + 1, states - 1);
            for (int write = Math.min(highestSign(table) + 1, signs - 1); write >= 0; write--) {
                for (int next = lastState; next >= 0; next--) {
                    push(Table.with(table, state, sign, Table.packed(write, true, next)));
                }
                for (int next = lastState; next >= 0 && table != Table.EMPTY; next--) {
                    push(Table.with(table, state, sign, Table.packed(write, false, next)));
                }
            }
        }

        // As only the lowest new one is ever used, all below the highest one occur too.
        private static int highestSign(long table) {
            int highest = 0;
            for (int cell = 0; cell < Table.CELLS; cell++) {
                int move = Table.moveAt(table, cell / Table.MOST_SIGNS, cell % Table.MOST_SIGNS);
                if (move != Table.NO_MOVE) {
                    highest = Math.max(highest, Table.written(move));
                }
            }
            return highest;
        }

        private static int highestState(long table) {
            int highest = 0;
            for (int cell = 0; cell < Table.CELLS; cell++) {
                int move = Table.moveAt(table, cell / Table.MOST_SIGNS, cell % Table.MOST_SIGNS);
                if (move != Table.NO_MOVE) {
                    highest = Math.max(highest, Table.comesTo(move));
                }
            }
            return highest;
        }

        private void push(long table) {
            if (height >= 0 && height < HIGHEST_PILE) {
                pile[height] = table;
                height++;
            }
        }

        private long pop() {
            if (height <= 0 || height > HIGHEST_PILE) {
                return Table.EMPTY;
            }
            height--;
            return pile[height];
        }
    }
}
