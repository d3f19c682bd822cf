/** Promises 1 to 4: a new object, machine, move, unset. */
public final class MachinesTest {
    public static void main(String[] args) {
        newObject();
        machine();
        fullPond();
        move();
        wrongMoves();
        unset();
        changesForget();
        Due.end("MachinesTest");
    }

    private static void newObject() {
        BeaverPond x = new BeaverPond();
        Due.badIndex("known(0) of a new pond", () -> x.known(0));
        Due.nothingThere("outcome() of a new pond", x::outcome);
        Due.nothingThere("next() without a listing", x::next);
        Due.noFigure("knownShare() of a new pond", x::knownShare);
        Due.is(0, "wipe() of a new pond", x::wipe);
        Due.is(0, "undecided(2, 2) of a new pond", () -> x.undecided(2, 2));
        Due.is(true, "isSound() of a new pond", x::isSound);
    }

    private static void machine() {
        BeaverPond x = new BeaverPond();
        Due.is(0, "machine(1, 2)", () -> x.machine(1, 2));
        Due.is(1, "machine(4, 3)", () -> x.machine(4, 3));
        int[][] wrong = {{0, 2}, {5, 2}, {1, 1}, {1, 4}, {-1, 3}, {Integer.MIN_VALUE, 2}, {2, Integer.MAX_VALUE}, {2, 0}};
        for (int[] numbers : wrong) {
            Due.badNumber("machine(" + numbers[0] + ", " + numbers[1] + ")", () -> x.machine(numbers[0], numbers[1]));
        }
        Due.is(2, "machine(2, 2) behind wrong ones", () -> x.machine(2, 2));
        Due.same("------", "code of 1 state", Due.codeOf(x, 0));
        Due.same("---------_---------_---------_---------", "code of 4 states", Due.codeOf(x, 1));
        Due.same("------_------", "code of 2 states", Due.codeOf(x, 2));
        Due.is('?', "known(2)", () -> x.known(2));
    }

    private static void fullPond() {
        BeaverPond x = new BeaverPond();
        for (int number = 0; number < 200; number++) {
            int due = number;
            Due.is(due, "machine " + number, () -> x.machine(1, 2));
        }
        Due.badState("machine 200", () -> x.machine(1, 2));
        Due.badNumber("machine(0, 2) in a full pond", () -> x.machine(0, 2));
        Due.badIndex("known(200)", () -> x.known(200));
        Due.is(200, "undecided(1, 2)", () -> x.undecided(1, 2));
    }

    private static void move() {
        BeaverPond x = new BeaverPond();
        x.machine(4, 3);
        Due.is(false, "a first move", () -> x.move(0, 0, 0, 1, true, 1));
        Due.is(true, "a move in its place", () -> x.move(0, 0, 0, 2, false, 3));
        Due.is(false, "a stop", () -> x.move(0, 3, 2, 0, false, -1));
        Due.is(true, "a move in place of a stop", () -> x.move(0, 3, 2, 2, true, 3));
        Due.is(false, "a stop in the middle", () -> x.move(0, 1, 1, 0, true, -1));
        Due.same("2LD------_---0RH---_---------_------2RD", "the code", Due.codeOf(x, 0));
    }

    private static void wrongMoves() {
        BeaverPond x = new BeaverPond();
        x.machine(2, 2);
        x.move(0, 0, 0, 1, true, -1);
        x.run(0, 5);
        int[][] wrong = {{2, 0, 0, 0}, {-1, 0, 0, 0}, {0, 2, 0, 0}, {0, -1, 0, 0}, {0, 0, 2, 0}, {0, 0, -1, 0}, {0, 0, 0, 2},
            {0, 0, 0, -2}, {Integer.MAX_VALUE, 0, 0, 0}, {0, Integer.MIN_VALUE, 0, 0}, {0, 0, Integer.MAX_VALUE, 0},
            {0, 0, 0, Integer.MIN_VALUE}};
        for (int[] m : wrong) {
            Due.badNumber("move(0, " + m[0] + ", " + m[1] + ", " + m[2] + ", true, " + m[3] + ")",
                () -> x.move(0, m[0], m[1], m[2], true, m[3]));
        }
        Due.badIndex("move of machine 1", () -> x.move(1, 0, 0, 0, true, 0));
        Due.badIndex("move of machine -1", () -> x.move(-1, 0, 0, 0, true, 0));
        Due.badIndex("a wrong move of machine 1", () -> x.move(1, 9, 9, 9, true, 9));
        Due.is('s', "known(0) behind wrong moves", () -> x.known(0));
        Due.same("1RH---_------", "the code behind wrong moves", Due.codeOf(x, 0));
    }

    private static void unset() {
        BeaverPond x = new BeaverPond();
        x.machine(2, 2);
        x.move(0, 1, 1, 1, true, 0);
        x.move(0, 1, 0, 1, false, 0);
        Due.is(true, "unset of a move", () -> x.unset(0, 1, 1));
        Due.is(false, "unset of none", () -> x.unset(0, 1, 1));
        Due.same("------_1LA---", "the code behind unset", Due.codeOf(x, 0));
        int[][] wrong = {{2, 0}, {-1, 0}, {0, 2}, {0, -1}, {Integer.MAX_VALUE, 0}, {0, Integer.MIN_VALUE}};
        for (int[] place : wrong) {
            Due.badNumber("unset(0, " + place[0] + ", " + place[1] + ")", () -> x.unset(0, place[0], place[1]));
        }
        Due.badIndex("unset of machine 1", () -> x.unset(1, 0, 0));
        Due.badIndex("a wrong unset of machine -1", () -> x.unset(-1, 7, 7));
        Due.same("------_1LA---", "the code behind wrong ones", Due.codeOf(x, 0));
    }

    private static void changesForget() {
        BeaverPond x = new BeaverPond();
        int stops = Due.machineOf(x, "1RH---");
        x.run(stops, 1);
        Due.badNumber("unset of no sign", () -> x.unset(stops, 0, 2));
        Due.is('s', "known behind a wrong unset", () -> x.known(stops));
        Due.is(true, "the same move again", () -> x.move(stops, 0, 0, 1, true, -1));
        Due.is('?', "known behind the same move", () -> x.known(stops));
        Due.same("[]", "certificate behind the same move", Due.certificateOf(x, stops));
        x.run(stops, 1);
        Due.is(false, "unset of no move", () -> x.unset(stops, 0, 1));
        Due.is('?', "known behind unset of no move", () -> x.known(stops));
        int travels = Due.machineOf(x, "1RA---");
        Due.is(true, "prove(t)", () -> x.prove(travels, 't', 9));
        x.move(travels, 0, 1, 0, false, 0);
        Due.is('?', "known behind a move that changes nothing of the run", () -> x.known(travels));
        Due.nothingThere("check behind it", () -> x.check(travels));
    }
}
