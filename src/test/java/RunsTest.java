/** Promises 10 to 16: run, outcome, marks, space, rows, sign, head. */
public final class RunsTest {
    public static void main(String[] args) {
        noRun();
        beavers();
        bounds();
        stuck();
        tapes();
        farAway();
        lastRunStays();
        neverForgotten();
        Due.end("RunsTest");
    }

    private static void noRun() {
        BeaverPond x = new BeaverPond();
        int machine = Due.machineOf(x, "1RA---");
        x.prove(machine, 'c', 9);
        x.list(2, 2, 9);
        x.next();
        Due.badNumber("run(0, -1)", () -> x.run(machine, -1));
        Due.badNumber("run(0, 2001)", () -> x.run(machine, 2001));
        Due.badIndex("run(2, 5)", () -> x.run(2, 5));
        Due.badIndex("run(-1, -1)", () -> x.run(-1, -1));
        Due.nothingThere("outcome()", x::outcome);
        Due.nothingThere("marks()", x::marks);
        Due.nothingThere("space()", x::space);
        Due.nothingThere("rows()", x::rows);
        Due.nothingThere("sign(0)", () -> x.sign(0));
        Due.nothingThere("head()", x::head);
    }

    /** The known champions, with their steps and marks. */
    private static void beavers() {
        champion("1RB1LB_1LA1RH", 6, 4);
        champion("1RB1RH_0RC1RB_1LC1LA", 14, 6);
        champion("1RB1RH_1LB0RC_1LC1LA", 21, 5);
        champion("1RB1LB_1LA0LC_1RH1LD_1RD0RA", 107, 13);
        champion("1RB2LB1RH_2LA2RB1LB", 38, 9);
    }

    private static void champion(String code, int steps, int marks) {
        BeaverPond x = new BeaverPond();
        int machine = Due.machineOf(x, code);
        Due.is(steps - 1, code + " but for a step", () -> x.run(machine, steps - 1));
        Due.is('g', code + ": outcome() but for a step", x::outcome);
        Due.is('?', code + ": known() but for a step", () -> x.known(machine));
        Due.is(steps, code + " just so far", () -> x.run(machine, steps));
        Due.is('s', code + ": outcome()", x::outcome);
        Due.is(marks, code + ": marks()", x::marks);
        Due.is('s', code + ": known()", () -> x.known(machine));
        Due.same("[" + steps + "]", code + ": certificate", Due.certificateOf(x, machine));
        Due.is(steps, code + " and more", () -> x.run(machine, 2000));
    }

    private static void bounds() {
        BeaverPond x = new BeaverPond();
        int goes = Due.machineOf(x, "1RA---");
        Due.is(0, "run(0, 0)", () -> x.run(goes, 0));
        Due.is('g', "outcome() of no step", x::outcome);
        Due.is(1, "space() of no step", x::space);
        Due.is(0, "rows() of no step", x::rows);
        Due.is(0, "marks() of no step", x::marks);
        Due.is(2000, "run(0, 2000)", () -> x.run(goes, 2000));
        Due.is(2000, "marks()", x::marks);
        Due.is(2001, "space()", x::space);
        Due.is(2000, "head()", x::head);
        Due.is(1, "sign(1999)", () -> x.sign(1999));
        Due.is(0, "sign(2000)", () -> x.sign(2000));
        int back = Due.machineOf(x, "2LA------");
        Due.is(2000, "run(1, 2000)", () -> x.run(back, 2000));
        Due.is(-2000, "head()", x::head);
        Due.is(2, "sign(-1999)", () -> x.sign(-1999));
        Due.is(0, "sign(1)", () -> x.sign(1));
        Due.badNumber("run(0, the greatest)", () -> x.run(goes, Integer.MAX_VALUE));
        Due.badNumber("run(0, the least)", () -> x.run(goes, Integer.MIN_VALUE));
        Due.is(-2000, "head() behind wrong runs", x::head);
    }

    private static void stuck() {
        BeaverPond x = new BeaverPond();
        int empty = x.machine(1, 2);
        Due.is(0, "run of no moves", () -> x.run(empty, 9));
        Due.is('k', "outcome()", x::outcome);
        Due.is(0, "run of no moves and no steps", () -> x.run(empty, 0));
        Due.is('k', "outcome() at the bound 0", x::outcome);
        int two = Due.machineOf(x, "1RB---_0LA---");
        Due.is(2, "run up to where it is stuck", () -> x.run(two, 2));
        Due.is('k', "outcome() at the bound", x::outcome);
        Due.is(1, "run a step less", () -> x.run(two, 1));
        Due.is('g', "outcome()", x::outcome);
        Due.is(2, "run farther", () -> x.run(two, 3));
        Due.is('k', "outcome()", x::outcome);
        Due.is('?', "known()", () -> x.known(two));
    }

    /** 1, then a blank, then 2 and 2, with the machine behind a blank at the right; all of it in a mirror too. */
    private static void tapes() {
        BeaverPond x = new BeaverPond();
        int machine = Due.machineOf(x, "1RB------_0RC------_2RD------_2RH------");
        Due.is(4, "run", () -> x.run(machine, 9));
        Due.is(3, "rows()", x::rows);
        Due.is(3, "marks()", x::marks);
        Due.is(5, "space()", x::space);
        Due.is(4, "head()", x::head);
        int mirror = Due.machineOf(x, "1LB------_0LC------_2LD------_1LH------");
        Due.is(4, "run in the mirror", () -> x.run(mirror, 9));
        Due.is(4, "rows()", x::rows);
        Due.is(3, "marks()", x::marks);
        Due.is(5, "space()", x::space);
        Due.is(-4, "head()", x::head);
        int[] due = {0, 1, 2, 0, 1, 0};
        for (int place = -4; place <= 1; place++) {
            int where = place;
            Due.is(due[place + 4], "sign(" + place + ")", () -> x.sign(where));
        }
        int wipes = Due.machineOf(x, "0RB---_0LH---");
        Due.is(2, "run of one that writes nothing", () -> x.run(wipes, 9));
        Due.is(0, "rows()", x::rows);
        Due.is(0, "marks()", x::marks);
        Due.is(2, "space()", x::space);
        Due.is(0, "head()", x::head);
        int blankEnds = Due.machineOf(x, "0RB---_1RC---_0RD---_0LH---");
        Due.is(4, "run with blanks at both ends", () -> x.run(blankEnds, 9));
        Due.is(1, "rows()", x::rows);
        Due.is(4, "space()", x::space);
        Due.is(2, "head()", x::head);
    }

    private static void farAway() {
        BeaverPond x = new BeaverPond();
        x.run(Due.machineOf(x, "1RA---"), 2000);
        int[] places = {Integer.MAX_VALUE, Integer.MIN_VALUE, 2001, -2001, 4001, -4001, Integer.MIN_VALUE + 2000, Integer.MAX_VALUE - 2000};
        for (int place : places) {
            Due.is(0, "sign(" + place + ")", () -> x.sign(place));
        }
    }

    private static void lastRunStays() {
        BeaverPond x = new BeaverPond();
        int beaver = Due.machineOf(x, "1RB1LB_1LA1RH");
        x.run(beaver, 9);
        int other = Due.machineOf(x, "1RA---");
        x.prove(other, 't', 300);
        x.check(other);
        x.isSound();
        x.list(2, 2, 200);
        x.next();
        x.next();
        x.move(beaver, 1, 1, 1, true, 0);
        x.unset(beaver, 0, 0);
        Due.is('s', "outcome()", x::outcome);
        Due.is(4, "marks()", x::marks);
        Due.is(4, "space()", x::space);
        Due.is(1, "rows()", x::rows);
        Due.is(1, "sign(-2)", () -> x.sign(-2));
        Due.is(0, "head()", x::head);
        Due.is('?', "known()", () -> x.known(beaver));
        int stuck = x.machine(1, 2);
        x.run(stuck, 5);
        x.move(stuck, 0, 0, 1, true, 0);
        Due.is('k', "outcome() behind a move that would let it go on", x::outcome);
        Due.is(0, "sign(-2) of the later run", () -> x.sign(-2));
    }

    private static void neverForgotten() {
        BeaverPond x = new BeaverPond();
        int beaver = Due.machineOf(x, "1RB1LB_1LA1RH");
        x.run(beaver, 6);
        x.run(beaver, 3);
        Due.is('g', "outcome() of a shorter run", x::outcome);
        Due.is('s', "known() behind a shorter run", () -> x.known(beaver));
        Due.is(6, "certificate behind a shorter run", () -> x.certificate(beaver, 0));
        int travels = Due.machineOf(x, "1RA---");
        x.prove(travels, 't', 5);
        x.run(travels, 100);
        Due.is('t', "known() behind a run without an end", () -> x.known(travels));
    }
}
