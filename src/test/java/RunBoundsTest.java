/** The bounds in promises 10 to 16, on both sides, and that a refused call changes nothing. */
public final class RunBoundsTest {
    private static final int LEAST = Integer.MIN_VALUE;
    private static final int GREATEST = Integer.MAX_VALUE;
    private static final String STUCK_BEHIND_1999 = "1LB---2RB_2RC2LB0LB_1RA1RA2LD_1LB1RB2RD";
    private static final String STUCK_BEHIND_2000 = "1LB0RD2RB_2RC2LB0LB_1RA2RD2RB_0LD---2RA";

    public static void main(String[] args) {
        aRunHasZeroToTwoThousandSteps();
        aRunNeedsAMachine();
        aWrongMachineComesAheadOfAWrongNumber();
        theStepThatStopsCounts();
        stoppingAtTheBoundIsKnown();
        stoppingBehindTheBoundIsNotKnown();
        stuckAtTheBound();
        stuckIsWithoutAStep();
        itBeginsInTheStateZeroAtThePlaceZero();
        withoutARunThereIsNothing();
        otherCallsAreNoRuns();
        theLastRunOfAllMachinesIsTold();
        placesHaveNoEnd();
        spaceCountsTheFirstAndTheLastPlace();
        rowsGoFromTheFirstToTheLastMark();
        onlyMoveAndUnsetOfItForget();
        movesForgetWhateverTheyChange();
        Due.end("RunBoundsTest");
    }

    private static BeaverPond pondWith(String code) {
        BeaverPond x = new BeaverPond();
        Due.machineOf(x, code);
        return x;
    }

    private static void ran(BeaverPond x, int bound, int steps, char outcome, char known) {
        Due.is(steps, "run(0, " + bound + ")", () -> x.run(0, bound));
        Due.is(outcome, "outcome() behind " + bound, x::outcome);
        Due.is(known, "known(0) behind " + bound, () -> x.known(0));
    }

    private static void aRunHasZeroToTwoThousandSteps() {
        BeaverPond x = pondWith("1RA---");
        ran(x, 0, 0, 'g', '?');
        ran(x, 1, 1, 'g', '?');
        ran(x, 1999, 1999, 'g', '?');
        ran(x, 2000, 2000, 'g', '?');
        for (int steps : new int[] {LEAST, -2000, -1, 2001, GREATEST}) {
            Twins.badNumber("run(0, " + steps + ")", Ponds::rich, y -> y.run(0, steps));
            Twins.badNumber("run(2, " + steps + ")", Ponds::rich, y -> y.run(2, steps));
        }
    }

    private static void aRunNeedsAMachine() {
        for (int machine : new int[] {LEAST, -1, Ponds.RICH, GREATEST}) {
            Twins.badIndex("run(" + machine + ", 9)", Ponds::rich, x -> x.run(machine, 9));
        }
        BeaverPond x = new BeaverPond();
        Ponds.rich(x);
        Due.is(6, "run(0, 9)", () -> x.run(0, 9));
        Due.is(9, "run of the last machine", () -> x.run(Ponds.RICH - 1, 9));
    }

    private static void aWrongMachineComesAheadOfAWrongNumber() {
        for (int machine : new int[] {-1, Ponds.RICH}) {
            Twins.badIndex("run(" + machine + ", -1)", Ponds::rich, x -> x.run(machine, -1));
            Twins.badIndex("run(" + machine + ", 2001)", Ponds::rich, x -> x.run(machine, 2001));
        }
    }

    /** Its writing and its going count too. */
    private static void theStepThatStopsCounts() {
        BeaverPond x = pondWith("2LH------");
        ran(x, 0, 0, 'g', '?');
        ran(x, 1, 1, 's', 's');
        Due.is(1, "certificate(0, 0)", () -> x.certificate(0, 0));
        Due.is(1, "marks()", x::marks);
        Due.is(2, "sign(0)", () -> x.sign(0));
        Due.is(-1, "head()", x::head);
        Due.is(2, "space()", x::space);
        BeaverPond y = pondWith("1RB---_0LC---_---0RH");
        ran(y, 3, 3, 's', 's');
        Due.is(0, "marks() behind a stop that writes the blank", y::marks);
        Due.is(1, "head() behind a stop to the right", y::head);
    }

    private static void stoppingAtTheBoundIsKnown() {
        BeaverPond x = pondWith(STUCK_BEHIND_1999.replace("---", "1RH"));
        ran(x, 1999, 1999, 'g', '?');
        ran(x, 2000, 2000, 's', 's');
        Due.is(2000, "certificate(0, 0)", () -> x.certificate(0, 0));
        Due.is(true, "check(0)", () -> x.check(0));
        Due.is(true, "isSound()", x::isSound);
        Due.is(2000.0, "meanSteps()", x::meanSteps);
    }

    private static void stoppingBehindTheBoundIsNotKnown() {
        BeaverPond x = pondWith(STUCK_BEHIND_2000.replace("---", "1RH"));
        ran(x, 2000, 2000, 'g', '?');
        Twins.badNumber("run(0, 2001)", y -> Due.machineOf(y, STUCK_BEHIND_2000.replace("---", "1RH")), y -> y.run(0, 2001));
        Due.nothingThere("check(0)", () -> x.check(0));
        Due.nothingThere("certificate(0, 0)", () -> x.certificate(0, 0));
    }

    private static void stuckAtTheBound() {
        BeaverPond x = pondWith(STUCK_BEHIND_2000);
        ran(x, 1999, 1999, 'g', '?');
        ran(x, 2000, 2000, 'k', '?');
        BeaverPond y = pondWith(STUCK_BEHIND_1999);
        ran(y, 1998, 1998, 'g', '?');
        ran(y, 1999, 1999, 'k', '?');
        ran(y, 2000, 1999, 'k', '?');
        BeaverPond z = pondWith("1RB---_0LA---");
        ran(z, 1, 1, 'g', '?');
        ran(z, 2, 2, 'k', '?');
        ran(z, 3, 2, 'k', '?');
    }

    private static void stuckIsWithoutAStep() {
        BeaverPond x = pondWith("---1RA");
        ran(x, 0, 0, 'k', '?');
        ran(x, 2000, 0, 'k', '?');
        Due.is(0, "head()", x::head);
        Due.is(1, "space()", x::space);
        Due.is(0, "marks()", x::marks);
        Due.is(0, "rows()", x::rows);
    }

    private static void itBeginsInTheStateZeroAtThePlaceZero() {
        BeaverPond x = pondWith("1LB0RH_0RH0RH");
        ran(x, 0, 0, 'g', '?');
        Due.is(0, "head() of no step", x::head);
        Due.is(0, "sign(0) of no step", () -> x.sign(0));
        ran(x, 1, 1, 'g', '?');
        Due.is(-1, "head() of a step", x::head);
        Due.is(1, "sign(0) of a step", () -> x.sign(0));
        ran(x, 2, 2, 's', 's');
        // Each run begins anew, with a blank tape.
        ran(x, 0, 0, 'g', 's');
        Due.is(0, "sign(0) of no step again", () -> x.sign(0));
        Due.is(0, "head() of no step again", x::head);
    }

    private static void withoutARunThereIsNothing() {
        Twins.Making[] makings = {Ponds::empty, x -> Ponds.withMachines(x, 3), x -> {
            Due.machineOf(x, "1RA---");
            Due.answerOf(() -> x.run(0, -1));
            Due.answerOf(() -> x.run(0, 2001));
            Due.answerOf(() -> x.run(1, 5));
        }};
        for (Twins.Making making : makings) {
            Twins.nothingThere("outcome() without a run", making, BeaverPond::outcome);
            Twins.nothingThere("marks() without a run", making, BeaverPond::marks);
            Twins.nothingThere("space() without a run", making, BeaverPond::space);
            Twins.nothingThere("rows() without a run", making, BeaverPond::rows);
            Twins.nothingThere("sign(0) without a run", making, x -> x.sign(0));
            Twins.nothingThere("sign(the least) without a run", making, x -> x.sign(LEAST));
            Twins.nothingThere("head() without a run", making, BeaverPond::head);
        }
        BeaverPond x = pondWith("1RA---");
        x.run(0, 0);
        Due.is('g', "outcome() of a run of no steps", x::outcome);
        Due.is(0, "marks() of a run of no steps", x::marks);
        Due.is(1, "space() of a run of no steps", x::space);
        Due.is(0, "rows() of a run of no steps", x::rows);
        Due.is(0, "sign(0) of a run of no steps", () -> x.sign(0));
        Due.is(0, "head() of a run of no steps", x::head);
    }

    private static void otherCallsAreNoRuns() {
        BeaverPond x = pondWith("1RA---");
        x.prove(0, 'c', 300);
        x.prove(0, 't', 300);
        x.check(0);
        x.isSound();
        x.list(2, 2, 200);
        x.next();
        x.next();
        x.isSound();
        Due.nothingThere("outcome() behind proofs and a listing", x::outcome);
        Due.nothingThere("space() behind proofs and a listing", x::space);
    }

    private static void theLastRunOfAllMachinesIsTold() {
        BeaverPond x = pondWith("1RH---");
        Due.machineOf(x, "2LA------");
        x.run(0, 1);
        x.run(1, 3);
        Due.is('g', "outcome() of the machine 1", x::outcome);
        Due.is(-3, "head() of the machine 1", x::head);
        x.run(0, 1);
        Due.is('s', "outcome() of the machine 0", x::outcome);
        Due.is(1, "head() of the machine 0", x::head);
        Due.is(0, "sign(-1) of the machine 0", () -> x.sign(-1));
        Due.is(1, "marks() of the machine 0", x::marks);
        Due.is(2, "space() of the machine 0", x::space);
    }

    private static void placesHaveNoEnd() {
        for (String code : new String[] {"1RA---", "1LA---"}) {
            int side = code.charAt(1) == 'R' ? 1 : -1;
            BeaverPond x = pondWith(code);
            x.run(0, 2000);
            Due.is(2000 * side, code + ": head()", x::head);
            Due.is(2000, code + ": marks()", x::marks);
            Due.is(2001, code + ": space()", x::space);
            Due.is(1, code + ": rows()", x::rows);
            Due.is(0, code + ": sign() ahead of the first", () -> x.sign(-side));
            Due.is(1, code + ": sign() of the first", () -> x.sign(0));
            Due.is(1, code + ": sign() of the last", () -> x.sign(1999 * side));
            Due.is(0, code + ": sign() behind the last", () -> x.sign(2000 * side));
            for (int place : new int[] {LEAST, LEAST + 2000, -4001, -2001, 2001, 4001, GREATEST - 2000, GREATEST}) {
                Due.is(0, code + ": sign(" + place + ")", () -> x.sign(place));
            }
        }
    }

    private static void spaceCountsTheFirstAndTheLastPlace() {
        BeaverPond x = pondWith("0RB---_0LC---_0LD---_0RH---");
        int[] due = {1, 2, 2, 3, 3};
        for (int steps = 0; steps <= 4; steps++) {
            int bound = steps;
            Due.is(bound, "run(0, " + bound + ")", () -> x.run(0, bound));
            Due.is(due[bound], "space() behind " + bound, x::space);
        }
    }

    private static void rowsGoFromTheFirstToTheLastMark() {
        BeaverPond x = pondWith("1RB------_2RC------_0RD------_2RA------");
        int[] rows = {0, 1, 2, 2, 4, 5, 6, 6, 8};
        int[] marks = {0, 1, 2, 2, 3, 4, 5, 5, 6};
        for (int steps = 0; steps < rows.length; steps++) {
            int bound = steps;
            x.run(0, bound);
            Due.is(rows[bound], "rows() behind " + bound, x::rows);
            Due.is(marks[bound], "marks() behind " + bound, x::marks);
        }
        BeaverPond y = pondWith("0LB---_1LC---_1LD---_0LH---");
        y.run(0, 9);
        Due.is(1, "rows() between blanks", y::rows);
        Due.is(2, "marks() between blanks", y::marks);
        BeaverPond z = pondWith("1RB---_0LC---_---0RH");
        z.run(0, 9);
        Due.is(0, "rows() of a tape that is blank again", z::rows);
    }

    private static void forgetting(boolean due, String what, Twins.Asking call) {
        BeaverPond x = pondWith("1RB1LB_1LA1RH");
        Due.machineOf(x, "1RH---_------");
        x.run(0, 9);
        x.run(1, 9);
        Due.answerOf(() -> call.answer(x));
        Due.is(due ? '?' : 's', "known(0) behind " + what, () -> x.known(0));
        Due.is(due ? "throws NoSuchElementException" : (Object) 6, "certificate(0, 0) behind " + what, () -> x.certificate(0, 0));
        Due.is(due ? 1 : 0, "undecided(2, 2) behind " + what, () -> x.undecided(2, 2));
        Due.is(due ? 1 : 0, "record(2, 2) behind " + what, () -> x.record(2, 2));
        Due.is(due ? 1.0 : 3.5, "meanSteps() behind " + what, x::meanSteps);
    }

    private static void onlyMoveAndUnsetOfItForget() {
        forgetting(false, "a shorter run", x -> x.run(0, 5));
        forgetting(false, "a run of no steps", x -> x.run(0, 0));
        forgetting(false, "a longer run", x -> x.run(0, 2000));
        forgetting(false, "a refused run", x -> x.run(0, 2001));
        forgetting(false, "a refused move", x -> x.move(0, 0, 0, 1, true, 2));
        forgetting(false, "a refused unset", x -> x.unset(0, 2, 0));
        forgetting(false, "a proof", x -> x.prove(0, 'c', 300));
        forgetting(false, "check()", x -> x.check(0));
        forgetting(false, "isSound()", BeaverPond::isSound);
        forgetting(false, "list()", x -> x.list(2, 2, 9));
        forgetting(true, "a move", x -> x.move(0, 1, 1, 0, false, -1));
        forgetting(true, "an unset", x -> x.unset(0, 1, 1));
    }

    private static void movesForgetWhateverTheyChange() {
        forgetting(true, "the same move again", x -> x.move(0, 0, 0, 1, true, 1));
        forgetting(true, "the same stop again", x -> x.move(0, 1, 1, 1, true, -1));
        BeaverPond x = pondWith("1RH---");
        x.run(0, 1);
        Due.is(false, "unset of no move", () -> x.unset(0, 0, 1));
        Due.is('?', "known(0) behind unset of no move", () -> x.known(0));
        BeaverPond y = pondWith("1RA---");
        y.prove(0, 't', 300);
        Due.is(false, "a move that it never does", () -> y.move(0, 0, 1, 0, true, -1));
        Due.is('?', "known(0) behind a move that it never does", () -> y.known(0));
        y.prove(0, 't', 300);
        Due.is(true, "unset of a move that it never does", () -> y.unset(0, 0, 1));
        Due.is('?', "known(0) behind its unset", () -> y.known(0));
        Due.nothingThere("certificate(0, 0) behind its unset", () -> y.certificate(0, 0));
    }
}
