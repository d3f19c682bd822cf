/** The bounds in promises 21 to 24, on both sides, and that a refused call changes nothing. */
public final class ListBoundsTest {
    private static final int LEAST = Integer.MIN_VALUE;
    private static final int GREATEST = Integer.MAX_VALUE;

    public static void main(String[] args) {
        listingsHaveRanges();
        aListingTakesThePlaceOfAnother();
        withoutAListingThereIsNoNext();
        behindTheLastOneThereIsNone();
        theFirstMoveOfAllGoesToTheRight();
        onlyTheLowestNewSignAndStateAreUsed();
        stuckBehindTheLastStepOfTheBoundIsStuck();
        oneStepMoreThanItWasRun();
        whatIsNotStuckIsNotKnown();
        atMostTwoHundredMachinesAreListed();
        noListingComesAheadOfAFullPond();
        aFullPondComesAheadOfAnEmptyPile();
        recordsNeedOneThatStops();
        ofSeveralTheLowestNumber();
        recordsOfSizesThereAreNot();
        undecidedOnesOfSizesThereAreNot();
        Due.end("ListBoundsTest");
    }

    private static void listingsHaveRanges() {
        for (int states : new int[] {LEAST, -1, 0, 1, 4, 5, GREATEST}) {
            for (int signs : new int[] {LEAST, -1, 0, 1, 2, 3, 4, GREATEST}) {
                for (int steps : new int[] {LEAST, -1, 0, 1, 200, 201, GREATEST}) {
                    String call = "list(" + states + ", " + signs + ", " + steps + ")";
                    if (states >= 1 && states <= 4 && signs >= 2 && signs <= 3 && steps >= 1 && steps <= 200) {
                        BeaverPond x = new BeaverPond();
                        Due.is(1, call, () -> x.list(states, signs, steps));
                        Due.is(0, call + ": next()", x::next);
                        Due.same(Ponds.codeLength(states, signs), call + ": letters", Due.codeOf(x, 0).length());
                    } else {
                        Twins.badNumber(call, Ponds::rich, x -> x.list(states, signs, steps));
                        Twins.badNumber(call + " without a listing", Ponds::empty, x -> x.list(states, signs, steps));
                    }
                }
            }
        }
    }

    private static void aListingTakesThePlaceOfAnother() {
        BeaverPond x = new BeaverPond();
        x.list(2, 2, 20);
        Ponds.listed(x, "1RH---_------ s[1]", "0RA---_------ ?[]", "0RB---_1RH--- s[2]");
        Due.is(1, "list(1, 3, 1) in its place", () -> x.list(1, 3, 1));
        Ponds.listed(x, "1RH------ s[1]", "0RA------ ?[]", "1RA------ ?[]");
        Due.is(-1, "next() behind it", x::next);
        Due.is(1, "list(1, 3, 1) again", () -> x.list(1, 3, 1));
        Ponds.listed(x, "1RH------ s[1]");
        Due.badNumber("list(1, 3, 201)", () -> x.list(1, 3, 201));
        Ponds.listed(x, "0RA------ ?[]");
    }

    private static void withoutAListingThereIsNoNext() {
        Twins.nothingThere("next() of a new pond", Ponds::empty, BeaverPond::next);
        Twins.nothingThere("next() without a listing", x -> Ponds.withMachines(x, 199), BeaverPond::next);
        Twins.nothingThere("next() behind a refused list()", x -> Due.answerOf(() -> x.list(1, 2, 0)), BeaverPond::next);
    }

    private static void listedOut(BeaverPond x) {
        x.list(1, 2, 1);
        x.next();
        x.next();
        x.next();
    }

    private static void behindTheLastOneThereIsNone() {
        BeaverPond x = new BeaverPond();
        x.list(1, 2, 1);
        Ponds.listed(x, "1RH--- s[1]", "0RA--- ?[]", "1RA--- ?[]");
        for (int each = 0; each < 5; each++) {
            Due.is(-1, "next() behind the last one", x::next);
        }
        Due.badIndex("known(3)", () -> x.known(3));
        Twins.leaves(-1, "next() behind the last one", ListBoundsTest::listedOut, BeaverPond::next);
        Due.is(1, "list(1, 2, 1) again", () -> x.list(1, 2, 1));
        Due.is(3, "next() of another one", x::next);
    }

    private static void theFirstMoveOfAllGoesToTheRight() {
        for (int[] size : Ponds.SIZES) {
            BeaverPond x = new BeaverPond();
            x.list(size[0], size[1], 1);
            for (int each = 0; each < 30 && x.next() >= 0; each++) {
                int machine = each;
                Due.is('R', "the first move of the machine " + each, () -> x.code(machine, 1));
            }
        }
    }

    private static void onlyTheLowestNewSignAndStateAreUsed() {
        BeaverPond x = new BeaverPond();
        x.list(4, 3, 1);
        Ponds.listed(x, "1RH------_---------_---------_--------- s[1]", "0RA------_---------_---------_--------- ?[]",
            "0RB------_1RH------_---------_--------- s[2]");
        String above = "0RB------_";
        String below = "------_---------_--------- ?[]";
        for (String move : new String[] {"0LA", "0LB", "0LC", "0RA", "0RB", "0RC", "1LA", "1LB", "1LC", "1RA", "1RB", "1RC"}) {
            Ponds.listed(x, above + move + below);
        }
        Ponds.listed(x, "1RA------_---------_---------_--------- ?[]", "1RB------_1RH------_---------_--------- s[2]");
        above = "1RB------_";
        for (String write : new String[] {"0", "1", "2"}) {
            for (String move : new String[] {"LA", "LB", "LC", "RA", "RB", "RC"}) {
                Ponds.listed(x, above + write + move + below);
            }
        }
        Due.is(-1, "next() behind the last one", x::next);
    }

    /** With the bound 2, a machine that comes to no move behind its third step is not stuck; with the bound 3, it is. */
    private static void stuckBehindTheLastStepOfTheBoundIsStuck() {
        String[] same = {"1RH---_------ s[1]", "0RA---_------ ?[]", "0RB---_1RH--- s[2]", "0RB---_0LA--- ?[]",
            "0RB---_0LB--- ?[]", "0RB---_0RA--- ?[]", "0RB---_0RB--- ?[]"};
        for (int steps = 1; steps <= 200; steps++) {
            BeaverPond x = new BeaverPond();
            x.list(2, 2, steps);
            Ponds.listed(x, same);
            Ponds.listed(x, steps < 3 ? "0RB---_1LA--- ?[]" : "0RB---_1LA1RH s[4]");
            Ponds.listed(x, steps < 3 ? "0RB---_1LB--- ?[]" : "0RB---_1LA0LA ?[]");
        }
        BeaverPond x = new BeaverPond();
        x.list(1, 2, 1);
        Ponds.listed(x, "1RH--- s[1]", "0RA--- ?[]", "1RA--- ?[]");
    }

    /** The most steps are the bound and one, until it is enough for the 6 steps of the champion. */
    private static void oneStepMoreThanItWasRun() {
        for (int steps = 1; steps <= 8; steps++) {
            BeaverPond x = new BeaverPond();
            x.list(2, 2, steps);
            int most = 0;
            for (int machine = x.next(); machine >= 0; machine = x.next()) {
                if (x.known(machine) == 's') {
                    most = Math.max(most, x.certificate(machine, 0));
                    int each = machine;
                    Due.is(x.certificate(machine, 0), "run(" + machine + ", 2000)", () -> x.run(each, 2000));
                    Due.is(true, "check(" + machine + ")", () -> x.check(each));
                }
            }
            Due.same(Math.min(steps + 1, 6), "the most steps with the bound " + steps, most);
        }
    }

    private static void whatIsNotStuckIsNotKnown() {
        BeaverPond x = new BeaverPond();
        x.list(2, 2, 1);
        int unknown = 0;
        int stopping = 0;
        for (int machine = x.next(); machine >= 0; machine = x.next()) {
            if (x.known(machine) == 's') {
                stopping++;
            } else {
                unknown++;
                int each = machine;
                Due.is('?', "known(" + machine + ")", () -> x.known(each));
                Due.nothingThere("check(" + machine + ")", () -> x.check(each));
            }
        }
        int decided = unknown;
        Due.same(3, "those that stop", stopping);
        Due.is(decided, "undecided(2, 2)", () -> x.undecided(2, 2));
    }

    private static void atMostTwoHundredMachinesAreListed() {
        BeaverPond x = new BeaverPond();
        Ponds.withMachines(x, Ponds.MOST_MACHINES - 1);
        x.list(2, 2, 5);
        Due.is(199, "next() of the last machine", x::next);
        Due.badState("next() of one too many", x::next);
        Due.badState("next() of one too many again", x::next);
        Due.is(1, "list() in a full pond", () -> x.list(2, 2, 5));
        Due.badState("next() of a new listing", x::next);
        Twins.badState("next() in a full pond", Ponds::full, BeaverPond::next);
    }

    private static void noListingComesAheadOfAFullPond() {
        Twins.nothingThere("next() in a full pond without a listing", x -> Ponds.withMachines(x, 200), BeaverPond::next);
        Twins.badNumber("list(1, 2, 201) in a full pond", Ponds::full, x -> x.list(1, 2, 201));
    }

    /** The document makes no difference: with 200 machines, the exception is due. */
    private static void aFullPondComesAheadOfAnEmptyPile() {
        BeaverPond x = new BeaverPond();
        Ponds.withMachines(x, Ponds.MOST_MACHINES - 4);
        listedOut(x);
        Due.is(-1, "next() with 199 machines", x::next);
        x.machine(1, 2);
        Due.badState("next() with 200 machines", x::next);
    }

    private static void recordsNeedOneThatStops() {
        for (int[] size : Ponds.SIZES) {
            String call = "record(" + size[0] + ", " + size[1] + ")";
            Twins.nothingThere(call + " of a new pond", Ponds::empty, x -> x.record(size[0], size[1]));
            Twins.nothingThere(call + " of one that is not known", x -> x.machine(size[0], size[1]), x -> x.record(size[0], size[1]));
            Twins.nothingThere(call + " of one that never stops", x -> proved(x, size), x -> x.record(size[0], size[1]));
            BeaverPond x = new BeaverPond();
            x.machine(size[0], size[1]);
            x.machine(size[0], size[1]);
            x.move(1, 0, 0, 0, false, -1);
            x.run(1, 0);
            Due.nothingThere(call + " of one that was run too short", () -> x.record(size[0], size[1]));
            x.run(1, 1);
            Due.is(1, call + " of one that stops", () -> x.record(size[0], size[1]));
            x.unset(1, 0, 0);
            Due.nothingThere(call + " behind unset()", () -> x.record(size[0], size[1]));
        }
    }

    private static void proved(BeaverPond x, int[] size) {
        x.machine(size[0], size[1]);
        x.move(0, 0, 0, 0, true, 0);
        x.prove(0, 't', 1);
    }

    private static void ofSeveralTheLowestNumber() {
        BeaverPond x = new BeaverPond();
        Due.machineOf(x, "1RB---_1RH---");
        Due.machineOf(x, "0RB---_0RH---");
        Due.machineOf(x, "1RH---_------");
        Due.machineOf(x, "1LB---_1LB1RH");
        for (int machine = 3; machine >= 0; machine--) {
            x.run(machine, 2000);
        }
        Due.is(0, "record(2, 2) of two with 2 steps", () -> x.record(2, 2));
        x.move(0, 0, 0, 1, true, 1);
        Due.is(1, "record(2, 2) behind move()", () -> x.record(2, 2));
        x.run(0, 2);
        Due.is(0, "record(2, 2) behind a run", () -> x.record(2, 2));
        Due.typeAll(x, "1RB1LB_1LA1RH");
        x.run(x.read(), 6);
        Due.is(4, "record(2, 2) with more steps", () -> x.record(2, 2));
    }

    private static void recordsOfSizesThereAreNot() {
        for (int states : new int[] {LEAST, -1, 0, 5, GREATEST}) {
            Twins.nothingThere("record(" + states + ", 2)", Ponds::rich, x -> x.record(states, 2));
        }
        for (int signs : new int[] {LEAST, -1, 0, 1, 4, GREATEST}) {
            Twins.nothingThere("record(2, " + signs + ")", Ponds::rich, x -> x.record(2, signs));
        }
        Twins.leaves(0, "record(2, 2)", Ponds::rich, x -> x.record(2, 2));
    }

    private static void undecidedOnesOfSizesThereAreNot() {
        for (int states : new int[] {LEAST, -1, 0, 5, GREATEST}) {
            Twins.leaves(0, "undecided(" + states + ", 2)", Ponds::rich, x -> x.undecided(states, 2));
        }
        for (int signs : new int[] {LEAST, -1, 0, 1, 4, GREATEST}) {
            Twins.leaves(0, "undecided(2, " + signs + ")", Ponds::rich, x -> x.undecided(2, signs));
        }
        Twins.leaves(1, "undecided(2, 2)", Ponds::rich, x -> x.undecided(2, 2));
        Twins.leaves(1, "undecided(2, 3)", Ponds::rich, x -> x.undecided(2, 3));
        Twins.leaves(0, "undecided(1, 2)", Ponds::rich, x -> x.undecided(1, 2));
        Twins.leaves(0, "undecided(2, 2) of a new pond", Ponds::empty, x -> x.undecided(2, 2));
    }
}
