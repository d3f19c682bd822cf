/** Promises 21 to 24: list, next, record, undecided. */
public final class ListingTest {
    public static void main(String[] args) {
        order();
        threeSigns();
        otherCallsLeaveThePile();
        stopsAreKnown();
        records();
        undecided();
        Due.end("ListingTest");
    }

    private static void order() {
        BeaverPond x = new BeaverPond();
        x.list(2, 2, 20);
        Ponds.listed(x, "1RH---_------ s[1]", "0RA---_------ ?[]", "0RB---_1RH--- s[2]", "0RB---_0LA--- ?[]", "0RB---_0LB--- ?[]",
            "0RB---_0RA--- ?[]", "0RB---_0RB--- ?[]", "0RB---_1LA1RH s[4]", "0RB---_1LA0LA ?[]", "0RB---_1LA0LB ?[]",
            "0RB---_1LA0RA ?[]", "0RB---_1LA0RB ?[]", "0RB---_1LA1LA ?[]", "0RB---_1LA1LB ?[]", "0RB---_1LA1RA ?[]",
            "0RB1RH_1LA1RB s[6]", "0RB0LA_1LA1RB ?[]");
    }

    /** The sign 2 and the state C come only behind the sign 1 and the state B. */
    private static void threeSigns() {
        BeaverPond x = new BeaverPond();
        x.list(3, 3, 3);
        Ponds.listed(x, "1RH------_---------_--------- s[1]", "0RA------_---------_--------- ?[]",
            "0RB------_1RH------_--------- s[2]", "0RB------_0LA------_--------- ?[]", "0RB------_0LB------_--------- ?[]",
            "0RB------_0LC------_1RH------ s[3]");
        String above = "0RB------_0LC------_";
        Ponds.listed(x, above + "0LA------ ?[]", above + "0LB------ ?[]", above + "0LC------ ?[]", above + "0RA------ ?[]",
            above + "0RB------ ?[]", above + "0RC------ ?[]", above + "1LA------ ?[]");
        BeaverPond y = new BeaverPond();
        y.list(2, 3, 4);
        int machine = -1;
        for (int each = 0; each < 200 && !Due.codeOf(y, Math.max(machine, 0)).startsWith("1RB---2LA"); each++) {
            machine = y.next();
            Due.same(false, "sign 2 without sign 1", Due.codeOf(y, machine).matches("0R.------_[0-][RL-].------.*2.*"));
        }
    }

    /** Other machines do not count there, nor what is done to those that were listed. */
    private static void otherCallsLeaveThePile() {
        BeaverPond x = new BeaverPond();
        x.list(2, 2, 20);
        x.machine(4, 3);
        x.run(0, 9);
        Ponds.listed(x, "1RH---_------ s[1]", "0RA---_------ ?[]");
        x.move(2, 0, 0, 0, true, 1);
        x.move(2, 1, 0, 0, true, 1);
        x.prove(2, 't', 300);
        x.isSound();
        Ponds.listed(x, "0RB---_1RH--- s[2]");
    }

    private static void stopsAreKnown() {
        BeaverPond x = new BeaverPond();
        x.list(3, 2, 200);
        for (int each = 0; each < 150; each++) {
            int machine = x.next();
            if (x.known(machine) == 's') {
                int steps = x.certificate(machine, 0);
                Due.is(true, "check(" + machine + ")", () -> x.check(machine));
                Due.is(steps, "run(" + machine + ", 2000)", () -> x.run(machine, 2000));
                Due.is('s', "outcome()", x::outcome);
            }
        }
    }

    private static void records() {
        BeaverPond x = new BeaverPond();
        Due.nothingThere("record(2, 2) of a new pond", () -> x.record(2, 2));
        int one = Due.machineOf(x, "1RH---_------");
        int six = Due.machineOf(x, "1RB1LB_1LA1RH");
        int sixToo = Due.machineOf(x, "1LB1RB_1RA1LH");
        int other = Due.machineOf(x, "1RB2LB1RH_2LA2RB1LB");
        Due.nothingThere("record(2, 2) ahead of a run", () -> x.record(2, 2));
        x.run(one, 9);
        Due.is(one, "record(2, 2)", () -> x.record(2, 2));
        x.run(sixToo, 9);
        Due.is(sixToo, "record(2, 2)", () -> x.record(2, 2));
        x.run(six, 5);
        Due.is(sixToo, "record(2, 2) behind a run too short", () -> x.record(2, 2));
        x.run(six, 9);
        Due.is(six, "record(2, 2) of two", () -> x.record(2, 2));
        x.run(other, 2000);
        Due.is(six, "record(2, 2) beside another size", () -> x.record(2, 2));
        Due.is(other, "record(2, 3)", () -> x.record(2, 3));
        x.unset(six, 1, 1);
        Due.is(sixToo, "record(2, 2) behind unset()", () -> x.record(2, 2));
        for (int[] size : new int[][] {{1, 2}, {3, 2}, {2, 4}, {0, 0}, {-1, -1}, {Integer.MIN_VALUE, Integer.MAX_VALUE}}) {
            Due.nothingThere("record(" + size[0] + ", " + size[1] + ")", () -> x.record(size[0], size[1]));
        }
    }

    private static void undecided() {
        BeaverPond x = new BeaverPond();
        int one = Due.machineOf(x, "1RA---");
        x.machine(1, 2);
        x.machine(1, 3);
        int stops = Due.machineOf(x, "1RH---");
        Due.is(3, "undecided(1, 2)", () -> x.undecided(1, 2));
        x.prove(one, 't', 1);
        Due.is(2, "undecided(1, 2) behind a proof", () -> x.undecided(1, 2));
        x.run(stops, 1);
        Due.is(1, "undecided(1, 2) behind a run", () -> x.undecided(1, 2));
        Due.is(1, "undecided(1, 3)", () -> x.undecided(1, 3));
        x.move(stops, 0, 0, 1, true, 0);
        Due.is(2, "undecided(1, 2) behind move()", () -> x.undecided(1, 2));
        for (int[] size : new int[][] {{2, 2}, {1, 4}, {0, 2}, {-1, -1}, {Integer.MAX_VALUE, Integer.MIN_VALUE}}) {
            Due.is(0, "undecided(" + size[0] + ", " + size[1] + ")", () -> x.undecided(size[0], size[1]));
        }
    }
}
