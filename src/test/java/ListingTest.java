/** Promises 21 to 24: list, next, record, undecided. */
public final class ListingTest {
    public static void main(String[] args) {
        wrongLists();
        oneState();
        order();
        threeSigns();
        bounds();
        stopsAreKnown();
        fullPond();
        anotherListing();
        records();
        undecided();
        Due.end("ListingTest");
    }

    private static void wrongLists() {
        BeaverPond x = new BeaverPond();
        int[][] wrong = {{0, 2, 1}, {5, 2, 1}, {1, 1, 1}, {1, 4, 1}, {1, 2, 0}, {1, 2, 201}, {-1, 2, 5}, {2, -1, 5}, {2, 2, -1},
            {Integer.MAX_VALUE, 2, 5}, {2, Integer.MIN_VALUE, 5}, {2, 2, Integer.MAX_VALUE}};
        for (int[] each : wrong) {
            Due.badNumber("list(" + each[0] + ", " + each[1] + ", " + each[2] + ")", () -> x.list(each[0], each[1], each[2]));
            Due.nothingThere("next() behind it", x::next);
        }
        Due.is(1, "list(4, 3, 200)", () -> x.list(4, 3, 200));
        Due.is(0, "next()", x::next);
        for (int[] each : wrong) {
            Due.badNumber("list(" + each[0] + ", " + each[1] + ", " + each[2] + ")", () -> x.list(each[0], each[1], each[2]));
        }
        Due.is(1, "next() of the listing that stays", x::next);
        Due.same("0RA------_---------_---------_---------", "its code", Due.codeOf(x, 1));
    }

    private static void listed(BeaverPond x, String... lines) {
        for (String line : lines) {
            int machine = x.next();
            String known = Due.certificateOf(x, machine);
            Due.same(line, "machine " + machine, Due.codeOf(x, machine) + " " + x.known(machine) + known);
        }
    }

    private static void oneState() {
        BeaverPond x = new BeaverPond();
        Due.is(1, "list(1, 2, 1)", () -> x.list(1, 2, 1));
        listed(x, "1RH--- s[1]", "0RA--- ?[]", "1RA--- ?[]");
        Due.is(-1, "next() behind the last one", x::next);
        Due.is(-1, "next() again", x::next);
        Due.badIndex("known(3)", () -> x.known(3));
    }

    private static void order() {
        BeaverPond x = new BeaverPond();
        x.list(2, 2, 20);
        listed(x, "1RH---_------ s[1]", "0RA---_------ ?[]", "0RB---_1RH--- s[2]", "0RB---_0LA--- ?[]", "0RB---_0LB--- ?[]",
            "0RB---_0RA--- ?[]", "0RB---_0RB--- ?[]", "0RB---_1LA1RH s[4]", "0RB---_1LA0LA ?[]", "0RB---_1LA0LB ?[]",
            "0RB---_1LA0RA ?[]", "0RB---_1LA0RB ?[]", "0RB---_1LA1LA ?[]", "0RB---_1LA1LB ?[]", "0RB---_1LA1RA ?[]",
            "0RB1RH_1LA1RB s[6]", "0RB0LA_1LA1RB ?[]");
    }

    /** The sign 2 and the state C come only behind the sign 1 and the state B. */
    private static void threeSigns() {
        BeaverPond x = new BeaverPond();
        x.list(3, 3, 3);
        listed(x, "1RH------_---------_--------- s[1]", "0RA------_---------_--------- ?[]",
            "0RB------_1RH------_--------- s[2]", "0RB------_0LA------_--------- ?[]", "0RB------_0LB------_--------- ?[]",
            "0RB------_0LC------_1RH------ s[3]");
        String above = "0RB------_0LC------_";
        listed(x, above + "0LA------ ?[]", above + "0LB------ ?[]", above + "0LC------ ?[]", above + "0RA------ ?[]",
            above + "0RB------ ?[]", above + "0RC------ ?[]", above + "1LA------ ?[]");
        BeaverPond y = new BeaverPond();
        y.list(2, 3, 4);
        int machine = -1;
        for (int each = 0; each < 200 && !Due.codeOf(y, Math.max(machine, 0)).startsWith("1RB---2LA"); each++) {
            machine = y.next();
            Due.same(false, "sign 2 without sign 1", Due.codeOf(y, machine).matches("0R.------_[0-][RL-].------.*2.*"));
        }
    }

    /** With a bound lower than the steps up to where it is stuck, it is not stuck; with just so many, it is. */
    private static void bounds() {
        BeaverPond x = new BeaverPond();
        x.list(2, 2, 1);
        listed(x, "1RH---_------ s[1]", "0RA---_------ ?[]", "0RB---_1RH--- s[2]", "0RB---_0LA--- ?[]", "0RB---_0LB--- ?[]",
            "0RB---_0RA--- ?[]", "0RB---_0RB--- ?[]", "0RB---_1LA--- ?[]");
        x.list(2, 2, 2);
        listed(x, "1RH---_------ s[1]", "0RA---_------ ?[]", "0RB---_1RH--- s[2]", "0RB---_0LA--- ?[]", "0RB---_0LB--- ?[]",
            "0RB---_0RA--- ?[]", "0RB---_0RB--- ?[]", "0RB---_1LA--- ?[]");
        x.list(2, 2, 3);
        listed(x, "1RH---_------ s[1]", "0RA---_------ ?[]", "0RB---_1RH--- s[2]", "0RB---_0LA--- ?[]", "0RB---_0LB--- ?[]",
            "0RB---_0RA--- ?[]", "0RB---_0RB--- ?[]", "0RB---_1LA1RH s[4]");
    }

    private static void stopsAreKnown() {
        BeaverPond x = new BeaverPond();
        x.list(3, 2, 200);
        for (int each = 0; each < 150; each++) {
            int machine = x.next();
            if (x.known(machine) == 's') {
                int steps = x.certificate(machine, 0);
                Due.is(true, "check(" + machine + ")", () -> x.check(machine));
                Due.is(steps, "run(" + machine + ", 2000)", () -> x.run(machine, 2000));
                Due.is('s', "outcome()", x::outcome);
            }
        }
    }

    private static void fullPond() {
        BeaverPond x = new BeaverPond();
        for (int number = 0; number < 198; number++) {
            x.machine(1, 2);
        }
        x.list(1, 2, 5);
        Due.is(198, "next()", x::next);
        Due.is(199, "next()", x::next);
        Due.badState("next() in a full pond", x::next);
        BeaverPond y = new BeaverPond();
        for (int number = 0; number < 197; number++) {
            y.machine(1, 2);
        }
        y.list(1, 2, 5);
        Due.is(197, "next()", y::next);
        Due.is(198, "next()", y::next);
        Due.is(199, "next()", y::next);
        Due.badState("next() in a full pond, though there is none any more", y::next);
        BeaverPond z = new BeaverPond();
        for (int number = 0; number < 200; number++) {
            z.machine(1, 2);
        }
        Due.nothingThere("next() in a full pond without a listing", z::next);
    }

    private static void anotherListing() {
        BeaverPond x = new BeaverPond();
        x.list(2, 2, 20);
        x.next();
        x.next();
        Due.is(1, "list(1, 3, 1)", () -> x.list(1, 3, 1));
        listed(x, "1RH------ s[1]", "0RA------ ?[]", "1RA------ ?[]");
        Due.is(-1, "next()", x::next);
        Due.is(1, "list(2, 2, 20)", () -> x.list(2, 2, 20));
        x.machine(4, 3);
        x.run(5, 9);
        listed(x, "1RH---_------ s[1]", "0RA---_------ ?[]");
        x.move(2, 0, 0, 0, true, 0);
        listed(x, "0RB---_1RH--- s[2]");
    }

    private static void records() {
        BeaverPond x = new BeaverPond();
        Due.nothingThere("record(2, 2) of a new pond", () -> x.record(2, 2));
        int one = Due.machineOf(x, "1RH---_------");
        int six = Due.machineOf(x, "1RB1LB_1LA1RH");
        int sixToo = Due.machineOf(x, "1LB1RB_1RA1LH");
        int other = Due.machineOf(x, "1RB2LB1RH_2LA2RB1LB");
        Due.nothingThere("record(2, 2) ahead of a run", () -> x.record(2, 2));
        x.run(one, 9);
        Due.is(one, "record(2, 2)", () -> x.record(2, 2));
        x.run(sixToo, 9);
        Due.is(sixToo, "record(2, 2)", () -> x.record(2, 2));
        x.run(six, 5);
        Due.is(sixToo, "record(2, 2) behind a run too short", () -> x.record(2, 2));
        x.run(six, 9);
        Due.is(six, "record(2, 2) of two", () -> x.record(2, 2));
        x.run(other, 2000);
        Due.is(six, "record(2, 2) beside another size", () -> x.record(2, 2));
        Due.is(other, "record(2, 3)", () -> x.record(2, 3));
        x.unset(six, 1, 1);
        Due.is(sixToo, "record(2, 2) behind unset()", () -> x.record(2, 2));
        for (int[] size : new int[][] {{1, 2}, {3, 2}, {2, 4}, {0, 0}, {-1, -1}, {Integer.MIN_VALUE, Integer.MAX_VALUE}}) {
            Due.nothingThere("record(" + size[0] + ", " + size[1] + ")", () -> x.record(size[0], size[1]));
        }
    }

    private static void undecided() {
        BeaverPond x = new BeaverPond();
        int one = Due.machineOf(x, "1RA---");
        x.machine(1, 2);
        x.machine(1, 3);
        int stops = Due.machineOf(x, "1RH---");
        Due.is(3, "undecided(1, 2)", () -> x.undecided(1, 2));
        x.prove(one, 't', 1);
        Due.is(2, "undecided(1, 2) behind a proof", () -> x.undecided(1, 2));
        x.run(stops, 1);
        Due.is(1, "undecided(1, 2) behind a run", () -> x.undecided(1, 2));
        Due.is(1, "undecided(1, 3)", () -> x.undecided(1, 3));
        x.move(stops, 0, 0, 1, true, 0);
        Due.is(2, "undecided(1, 2) behind move()", () -> x.undecided(1, 2));
        for (int[] size : new int[][] {{2, 2}, {1, 4}, {0, 2}, {-1, -1}, {Integer.MAX_VALUE, Integer.MIN_VALUE}}) {
            Due.is(0, "undecided(" + size[0] + ", " + size[1] + ")", () -> x.undecided(size[0], size[1]));
        }
    }
}
