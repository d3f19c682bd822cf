/** Promises 10 to 16: run, outcome, marks, space, rows, sign, head. */
public final class RunsTest {
    public static void main(String[] args) {
        beavers();
        tapes();
        lastRunStays();
        Due.end("RunsTest");
    }

    /** The known champions, with their steps and marks. */
    private static void beavers() {
        champion("1RB1LB_1LA1RH", 6, 4);
        champion("1RB1RH_0RC1RB_1LC1LA", 14, 6);
        champion("1RB1RH_1LB0RC_1LC1LA", 21, 5);
        champion("1RB1LB_1LA0LC_1RH1LD_1RD0RA", 107, 13);
        champion("1RB2LB1RH_2LA2RB1LB", 38, 9);
    }

    private static void champion(String code, int steps, int marks) {
        BeaverPond x = new BeaverPond();
        int machine = Due.machineOf(x, code);
        Due.is(steps - 1, code + " but for a step", () -> x.run(machine, steps - 1));
        Due.is('g', code + ": outcome() but for a step", x::outcome);
        Due.is('?', code + ": known() but for a step", () -> x.known(machine));
        Due.is(steps, code + " just so far", () -> x.run(machine, steps));
        Due.is('s', code + ": outcome()", x::outcome);
        Due.is(marks, code + ": marks()", x::marks);
        Due.is('s', code + ": known()", () -> x.known(machine));
        Due.same("[" + steps + "]", code + ": certificate", Due.certificateOf(x, machine));
        Due.is(steps, code + " and more", () -> x.run(machine, 2000));
    }

    /** 1, then a blank, then 2 and 2, with the machine behind a blank at the right; all of it in a mirror too. */
    private static void tapes() {
        BeaverPond x = new BeaverPond();
        int machine = Due.machineOf(x, "1RB------_0RC------_2RD------_2RH------");
        Due.is(4, "run", () -> x.run(machine, 9));
        Due.is(3, "rows()", x::rows);
        Due.is(3, "marks()", x::marks);
        Due.is(5, "space()", x::space);
        Due.is(4, "head()", x::head);
        int mirror = Due.machineOf(x, "1LB------_0LC------_2LD------_1LH------");
        Due.is(4, "run in the mirror", () -> x.run(mirror, 9));
        Due.is(4, "rows()", x::rows);
        Due.is(3, "marks()", x::marks);
        Due.is(5, "space()", x::space);
        Due.is(-4, "head()", x::head);
        int[] due = {0, 1, 2, 0, 1, 0};
        for (int place = -4; place <= 1; place++) {
            int where = place;
            Due.is(due[place + 4], "sign(" + place + ")", () -> x.sign(where));
        }
        int wipes = Due.machineOf(x, "0RB---_0LH---");
        Due.is(2, "run of one that writes nothing", () -> x.run(wipes, 9));
        Due.is(0, "rows()", x::rows);
        Due.is(0, "marks()", x::marks);
        Due.is(2, "space()", x::space);
        Due.is(0, "head()", x::head);
        int blankEnds = Due.machineOf(x, "0RB---_1RC---_0RD---_0LH---");
        Due.is(4, "run with blanks at both ends", () -> x.run(blankEnds, 9));
        Due.is(1, "rows()", x::rows);
        Due.is(4, "space()", x::space);
        Due.is(2, "head()", x::head);
    }

    private static void lastRunStays() {
        BeaverPond x = new BeaverPond();
        int beaver = Due.machineOf(x, "1RB1LB_1LA1RH");
        x.run(beaver, 9);
        int other = Due.machineOf(x, "1RA---");
        x.prove(other, 't', 300);
        x.check(other);
        x.isSound();
        x.list(2, 2, 200);
        x.next();
        x.next();
        x.move(beaver, 1, 1, 1, true, 0);
        x.unset(beaver, 0, 0);
        Due.is('s', "outcome()", x::outcome);
        Due.is(4, "marks()", x::marks);
        Due.is(4, "space()", x::space);
        Due.is(1, "rows()", x::rows);
        Due.is(1, "sign(-2)", () -> x.sign(-2));
        Due.is(0, "head()", x::head);
        Due.is('?', "known()", () -> x.known(beaver));
        int stuck = x.machine(1, 2);
        x.run(stuck, 5);
        x.move(stuck, 0, 0, 1, true, 0);
        Due.is('k', "outcome() behind a move that would let it go on", x::outcome);
        Due.is(0, "sign(-2) of the later run", () -> x.sign(-2));
    }
}
