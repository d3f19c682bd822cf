/** The bounds in promises 1 to 4, on both sides, and that a refused call changes nothing. */
public final class MachineBoundsTest {
    private static final int LEAST = Integer.MIN_VALUE;
    private static final int GREATEST = Integer.MAX_VALUE;

    public static void main(String[] args) {
        aNewPondIsEmptyWithoutListing();
        machinesHaveOneToFourStatesAndTwoOrThreeSigns();
        numbersAreFromZeroOn();
        atMostTwoHundredMachines();
        aWrongSizeComesAheadOfAFullPond();
        movesTakeEveryStateAndSignThereIs();
        movesRefuseWhatThereIsNot();
        movesNeedAMachine();
        unsetTakesEveryStateAndSignThereIs();
        unsetRefusesWhatThereIsNot();
        unsetNeedsAMachine();
        aWrongMachineComesAheadOfAWrongState();
        Due.end("MachineBoundsTest");
    }

    private static void aNewPondIsEmptyWithoutListing() {
        Twins.badIndex("known(0) of a new pond", Ponds::empty, x -> x.known(0));
        Twins.badIndex("code(0, 0) of a new pond", Ponds::empty, x -> x.code(0, 0));
        Twins.badIndex("areAlike(0, 0) of a new pond", Ponds::empty, x -> x.areAlike(0, 0));
        Twins.nothingThere("next() of a new pond", Ponds::empty, BeaverPond::next);
        Twins.nothingThere("outcome() of a new pond", Ponds::empty, BeaverPond::outcome);
        Twins.badNumber("read() of a new pond", Ponds::empty, BeaverPond::read);
        Twins.noFigure("knownShare() of a new pond", Ponds::empty, BeaverPond::knownShare);
        Twins.noFigure("meanSteps() of a new pond", Ponds::empty, BeaverPond::meanSteps);
        BeaverPond x = new BeaverPond();
        Due.is(0, "wipe() of a new pond", x::wipe);
        Due.is(true, "isSound() of a new pond", x::isSound);
        Due.is(0, "the first machine", () -> x.machine(1, 2));
    }

    private static void machinesHaveOneToFourStatesAndTwoOrThreeSigns() {
        for (int states : new int[] {LEAST, -1, 0, 1, 2, 3, 4, 5, GREATEST}) {
            for (int signs : new int[] {LEAST, -1, 0, 1, 2, 3, 4, GREATEST}) {
                String call = "machine(" + states + ", " + signs + ")";
                if (states >= 1 && states <= 4 && signs >= 2 && signs <= 3) {
                    BeaverPond x = new BeaverPond();
                    Due.is(0, call, () -> x.machine(states, signs));
                    Due.same(Ponds.codeLength(states, signs), "the letters of " + call, Due.codeOf(x, 0).length());
                } else {
                    Twins.badNumber(call, Ponds::rich, x -> x.machine(states, signs));
                }
            }
        }
    }

    private static void numbersAreFromZeroOn() {
        for (int machine : new int[] {LEAST, -1, Ponds.RICH, GREATEST}) {
            Twins.badIndex("known(" + machine + ")", Ponds::rich, x -> x.known(machine));
        }
        BeaverPond x = new BeaverPond();
        Ponds.rich(x);
        Due.is('s', "known(0)", () -> x.known(0));
        Due.is('?', "known(5), the last one", () -> x.known(Ponds.RICH - 1));
    }

    private static void atMostTwoHundredMachines() {
        BeaverPond x = new BeaverPond();
        Ponds.withMachines(x, Ponds.MOST_MACHINES - 1);
        Due.badIndex("known(199) ahead of it", () -> x.known(199));
        Due.is(199, "the last machine", () -> x.machine(4, 3));
        Due.is('?', "known(199)", () -> x.known(199));
        Due.badState("a machine too many", () -> x.machine(1, 2));
        Due.badState("a machine too many again", () -> x.machine(4, 3));
        Due.badIndex("known(200)", () -> x.known(200));
        Due.is(199, "undecided(1, 2)", () -> x.undecided(1, 2));
        Twins.badState("machine(1, 2) in a full pond", Ponds::full, y -> y.machine(1, 2));
    }

    private static void aWrongSizeComesAheadOfAFullPond() {
        Twins.badNumber("machine(0, 2) in a full pond", Ponds::full, x -> x.machine(0, 2));
        Twins.badNumber("machine(5, 2) in a full pond", Ponds::full, x -> x.machine(5, 2));
        Twins.badNumber("machine(1, 1) in a full pond", Ponds::full, x -> x.machine(1, 1));
        Twins.badNumber("machine(1, 4) in a full pond", Ponds::full, x -> x.machine(1, 4));
    }

    private static void movesTakeEveryStateAndSignThereIs() {
        for (int[] size : Ponds.SIZES) {
            BeaverPond x = new BeaverPond();
            x.machine(size[0], size[1]);
            for (int next = -1; next < size[0]; next++) {
                for (int write = 0; write < size[1]; write++) {
                    taken(x, size, 0, 0, write, next);
                    taken(x, size, size[0] - 1, size[1] - 1, write, next);
                }
            }
        }
    }

    private static void taken(BeaverPond x, int[] size, int state, int sign, int write, int next) {
        String call = "move(0, " + state + ", " + sign + ", " + write + ", true, " + next + ")";
        int index = state * (3 * size[1] + 1) + 3 * sign;
        Due.is(false, call, () -> x.move(0, state, sign, write, true, next));
        Due.is("012".charAt(write), call + ": what is written", () -> x.code(0, index));
        Due.is('R', call + ": where it goes", () -> x.code(0, index + 1));
        Due.is("HABCD".charAt(next + 1), call + ": the state", () -> x.code(0, index + 2));
        Due.is(true, call + " again, to the left", () -> x.move(0, state, sign, write, false, next));
        Due.is('L', call + ": where it goes then", () -> x.code(0, index + 1));
        Due.is(true, "unset behind " + call, () -> x.unset(0, state, sign));
    }

    private static void movesRefuseWhatThereIsNot() {
        for (int[] size : Ponds.SIZES) {
            for (int state : new int[] {LEAST, -1, size[0], GREATEST}) {
                refusedMove(size, state, 0, 0, 0);
            }
            for (int sign : new int[] {LEAST, -1, size[1], GREATEST}) {
                refusedMove(size, 0, sign, 0, 0);
                refusedMove(size, 0, 0, sign, 0);
            }
            for (int next : new int[] {LEAST, -2, size[0], GREATEST}) {
                refusedMove(size, 0, 0, 0, next);
            }
        }
    }

    /** The machine has a move and is known to stop: a refused call leaves both. */
    private static void stopping(BeaverPond x, int[] size) {
        x.machine(size[0], size[1]);
        x.move(0, 0, 0, 1, true, -1);
        x.run(0, 1);
    }

    private static void refusedMove(int[] size, int state, int sign, int write, int next) {
        String call = size[0] + " states, " + size[1] + " signs: move(0, " + state + ", " + sign + ", " + write + ", false, " + next + ")";
        Twins.badNumber(call, x -> stopping(x, size), x -> x.move(0, state, sign, write, false, next));
    }

    private static void movesNeedAMachine() {
        for (int machine : new int[] {LEAST, -1, Ponds.RICH, GREATEST}) {
            Twins.badIndex("move of machine " + machine, Ponds::rich, x -> x.move(machine, 0, 0, 0, true, 0));
        }
        BeaverPond x = new BeaverPond();
        Ponds.rich(x);
        Due.is(true, "move of machine 0", () -> x.move(0, 0, 0, 0, true, 0));
        Due.is(false, "move of the last machine", () -> x.move(Ponds.RICH - 1, 1, 1, 0, true, 0));
    }

    private static void unsetTakesEveryStateAndSignThereIs() {
        for (int[] size : Ponds.SIZES) {
            for (int state = 0; state < size[0]; state++) {
                for (int sign = 0; sign < size[1]; sign++) {
                    BeaverPond x = new BeaverPond();
                    x.machine(size[0], size[1]);
                    int each = state;
                    int read = sign;
                    String call = "unset(0, " + state + ", " + sign + ")";
                    Due.is(false, call + " of none", () -> x.unset(0, each, read));
                    String empty = Due.codeOf(x, 0);
                    x.move(0, state, sign, 0, false, -1);
                    Due.is(true, call + " of one that is there", () -> x.unset(0, each, read));
                    Due.same(empty, "the code behind " + call, Due.codeOf(x, 0));
                    Due.is(false, call + " again", () -> x.unset(0, each, read));
                }
            }
        }
    }

    private static void unsetRefusesWhatThereIsNot() {
        for (int[] size : Ponds.SIZES) {
            for (int state : new int[] {LEAST, -1, size[0], GREATEST}) {
                Twins.badNumber("unset(0, " + state + ", 0)", x -> stopping(x, size), x -> x.unset(0, state, 0));
            }
            for (int sign : new int[] {LEAST, -1, size[1], GREATEST}) {
                Twins.badNumber("unset(0, 0, " + sign + ")", x -> stopping(x, size), x -> x.unset(0, 0, sign));
            }
        }
    }

    private static void unsetNeedsAMachine() {
        for (int machine : new int[] {LEAST, -1, Ponds.RICH, GREATEST}) {
            Twins.badIndex("unset of machine " + machine, Ponds::rich, x -> x.unset(machine, 0, 0));
        }
        BeaverPond x = new BeaverPond();
        Ponds.rich(x);
        Due.is(true, "unset of machine 0", () -> x.unset(0, 0, 0));
        Due.is(true, "unset of the last machine", () -> x.unset(Ponds.RICH - 1, 0, 0));
    }

    private static void aWrongMachineComesAheadOfAWrongState() {
        for (int machine : new int[] {-1, Ponds.RICH}) {
            Twins.badIndex("move(" + machine + ", 9, ..)", Ponds::rich, x -> x.move(machine, 9, 0, 0, true, 0));
            Twins.badIndex("move(" + machine + ", 0, 9, ..)", Ponds::rich, x -> x.move(machine, 0, 9, 0, true, 0));
            Twins.badIndex("move(" + machine + ", 0, 0, 9, ..)", Ponds::rich, x -> x.move(machine, 0, 0, 9, true, 0));
            Twins.badIndex("move(" + machine + ", .., -2)", Ponds::rich, x -> x.move(machine, 0, 0, 0, true, -2));
            Twins.badIndex("unset(" + machine + ", 9, 0)", Ponds::rich, x -> x.unset(machine, 9, 0));
            Twins.badIndex("unset(" + machine + ", 0, 9)", Ponds::rich, x -> x.unset(machine, 0, 9));
        }
    }
}
