/** The bounds in promises 25 to 27, on both sides, and that a refused call changes nothing. */
public final class FigureBoundsTest {
    public static void main(String[] args) {
        withoutMachinesThereIsNoShare();
        theShareGoesFromZeroToOne();
        withoutOneThatStopsThereIsNoMean();
        theMeanOfOneIsItsSteps();
        theSumAndTheNumberAreDividedAsDoubles();
        aPondWithoutProofsIsSound();
        proofsAtTheGreatestBoundsAreSound();
        Due.end("FigureBoundsTest");
    }

    private static void withoutMachinesThereIsNoShare() {
        Twins.noFigure("knownShare() of a new pond", Ponds::empty, BeaverPond::knownShare);
        Twins.noFigure("knownShare() of typed letters alone", x -> Due.typeAll(x, "1RA---"), BeaverPond::knownShare);
        Twins.noFigure("knownShare() of a listing alone", x -> x.list(2, 2, 9), BeaverPond::knownShare);
        Twins.leaves(0.0f, "knownShare() of one machine", x -> x.machine(1, 2), BeaverPond::knownShare);
    }

    private static void theShareGoesFromZeroToOne() {
        BeaverPond x = new BeaverPond();
        Ponds.withMachines(x, Ponds.MOST_MACHINES);
        Due.is(0.0f, "knownShare() of 200 machines", x::knownShare);
        for (int machine = 0; machine < 7; machine++) {
            int each = machine;
            x.move(machine, 0, 0, 0, true, machine % 2 - 1);
            Due.same(true, "known now", machine % 2 == 0 ? x.run(each, 1) == 1 : x.prove(each, 't', 1));
            Due.is((float) (machine + 1) / 200.0f, "knownShare() of " + (machine + 1) + " known ones", x::knownShare);
        }
        BeaverPond y = new BeaverPond();
        Due.machineOf(y, "1RH---");
        y.run(0, 1);
        Due.is(1.0f, "knownShare() of all", y::knownShare);
        y.machine(4, 3);
        y.machine(4, 3);
        Due.is(1.0f / 3.0f, "knownShare() of one in three", y::knownShare);
    }

    private static void withoutOneThatStopsThereIsNoMean() {
        Twins.noFigure("meanSteps() of a new pond", Ponds::empty, BeaverPond::meanSteps);
        Twins.noFigure("meanSteps() of one that is not known", x -> x.machine(1, 2), BeaverPond::meanSteps);
        Twins.noFigure("meanSteps() of one that never stops", x -> {
            Due.machineOf(x, "1RA---");
            x.prove(0, 't', 1);
        }, BeaverPond::meanSteps);
        Twins.noFigure("meanSteps() of one that was run too short", x -> {
            Due.machineOf(x, "1RH---");
            x.run(0, 0);
        }, BeaverPond::meanSteps);
        Twins.noFigure("meanSteps() behind unset()", x -> {
            Due.machineOf(x, "1RH---");
            x.run(0, 1);
            x.unset(0, 0, 1);
        }, BeaverPond::meanSteps);
    }

    private static void theMeanOfOneIsItsSteps() {
        Twins.leaves(1.0, "meanSteps() of one with a step", x -> {
            Due.machineOf(x, "1RH---");
            x.run(0, 1);
            x.machine(1, 2);
        }, BeaverPond::meanSteps);
        Twins.leaves(3.5, "meanSteps() of one with 6 steps and one with 1", Ponds::rich, BeaverPond::meanSteps);
    }

    private static void theSumAndTheNumberAreDividedAsDoubles() {
        BeaverPond x = new BeaverPond();
        String[] codes = {"1RB1LB_1LA1RH", "1RH---", "1RB---_1RH---", "1RB---_0RH---", "1RB1RH_0RC1RB_1LC1LA", "1RH------"};
        double[] means = {6.0, 7.0 / 2.0, 9.0 / 3.0, 11.0 / 4.0, 25.0 / 5.0, 26.0 / 6.0};
        for (int number = 0; number < codes.length; number++) {
            x.run(Due.machineOf(x, codes[number]), 2000);
            Due.is(means[number], "meanSteps() of " + (number + 1), x::meanSteps);
        }
    }

    private static void aPondWithoutProofsIsSound() {
        Twins.leaves(true, "isSound() of a new pond", Ponds::empty, BeaverPond::isSound);
        Twins.leaves(true, "isSound() of one that is not known", x -> x.machine(1, 2), BeaverPond::isSound);
        Twins.leaves(true, "isSound() of one that stops", x -> {
            Due.machineOf(x, "1RH---");
            x.run(0, 1);
        }, BeaverPond::isSound);
        Twins.leaves(true, "isSound() of some of each kind", Ponds::rich, BeaverPond::isSound);
        Twins.leaves(true, "isSound() of a full pond", Ponds::full, BeaverPond::isSound);
    }

    private static void proofsAtTheGreatestBoundsAreSound() {
        BeaverPond x = new BeaverPond();
        String[] codes = {"1LB0LD2RA_1RB2LA0LA_2RD1LC2RC_2RC2LD0RA", "0LC2LA1RD_1LD0RD2RD_0RB1LC0RD_2RB2LC1RA",
            "1LA1LA2RD_1LC2RB1LC_---0RB2LD_1LD2RC1LA", "1LC1RA2RB_1LB2RC0LB_1RB2LD0LD_1RA1LC1RD",
            "1LB1RH2RB_2RC2LB0LB_1RA1RA2LD_1LB1RB2RD"};
        for (String code : codes) {
            Due.machineOf(x, code);
        }
        Due.is(true, "prove(0, c, 300)", () -> x.prove(0, 'c', 300));
        Due.is(true, "prove(1, t, 300)", () -> x.prove(1, 't', 300));
        Due.is(true, "prove(2, b, 30)", () -> x.prove(2, 'b', 30));
        Due.is(true, "prove(3, n, 4)", () -> x.prove(3, 'n', 4));
        Due.is(2000, "run(4, 2000)", () -> x.run(4, 2000));
        Due.is(true, "isSound()", x::isSound);
        Due.is(1.0f, "knownShare()", x::knownShare);
    }
}
