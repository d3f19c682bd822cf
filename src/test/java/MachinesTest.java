/** Promises 2 to 4: machine, move, unset. */
public final class MachinesTest {
    public static void main(String[] args) {
        machine();
        move();
        unset();
        Due.end("MachinesTest");
    }

    private static void machine() {
        BeaverPond x = new BeaverPond();
        Due.is(0, "machine(1, 2)", () -> x.machine(1, 2));
        Due.is(1, "machine(4, 3)", () -> x.machine(4, 3));
        Due.is(2, "machine(2, 2)", () -> x.machine(2, 2));
        Due.same("------", "code of 1 state", Due.codeOf(x, 0));
        Due.same("---------_---------_---------_---------", "code of 4 states", Due.codeOf(x, 1));
        Due.same("------_------", "code of 2 states", Due.codeOf(x, 2));
        Due.is('?', "known(2)", () -> x.known(2));
    }

    private static void move() {
        BeaverPond x = new BeaverPond();
        x.machine(4, 3);
        Due.is(false, "a first move", () -> x.move(0, 0, 0, 1, true, 1));
        Due.is(true, "a move in its place", () -> x.move(0, 0, 0, 2, false, 3));
        Due.is(false, "a stop", () -> x.move(0, 3, 2, 0, false, -1));
        Due.is(true, "a move in place of a stop", () -> x.move(0, 3, 2, 2, true, 3));
        Due.is(false, "a stop in the middle", () -> x.move(0, 1, 1, 0, true, -1));
        Due.same("2LD------_---0RH---_---------_------2RD", "the code", Due.codeOf(x, 0));
    }

    private static void unset() {
        BeaverPond x = new BeaverPond();
        x.machine(2, 2);
        x.move(0, 1, 1, 1, true, 0);
        x.move(0, 1, 0, 1, false, 0);
        Due.is(true, "unset of a move", () -> x.unset(0, 1, 1));
        Due.is(false, "unset of none", () -> x.unset(0, 1, 1));
        Due.same("------_1LA---", "the code behind unset", Due.codeOf(x, 0));
    }
}
