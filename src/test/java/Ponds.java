/** Ponds that several tests begin with. */
final class Ponds {
    static final int MOST_MACHINES = 200;
    static final int MOST_LETTERS = 60;
    static final int[][] SIZES = {{1, 2}, {1, 3}, {2, 2}, {2, 3}, {3, 2}, {3, 3}, {4, 2}, {4, 3}};

    private Ponds() {
    }

    static void empty(BeaverPond pond) {
    }

    /** Something of each kind: machines known by run and by proof and not known, a run, a listing, typed letters. */
    static void rich(BeaverPond pond) {
        int stops = Due.machineOf(pond, "1RB1LB_1LA1RH");
        int circles = Due.machineOf(pond, "0RB1LA_0LA---");
        int travels = Due.machineOf(pond, "1RA---");
        int empty = pond.machine(2, 3);
        pond.prove(circles, 'c', 300);
        pond.prove(travels, 't', 300);
        pond.run(stops, 6);
        pond.move(empty, 1, 2, 2, false, 1);
        pond.list(2, 2, 20);
        pond.next();
        pond.next();
        Due.typeAll(pond, "2LA---0RA");
    }

    /** How many machines a rich pond has. */
    static final int RICH = 6;

    static void withMachines(BeaverPond pond, int count) {
        for (int each = 0; each < count; each++) {
            pond.machine(1, 2);
        }
    }

    /** 200 machines, a listing that goes on, and a code that is typed. */
    static void full(BeaverPond pond) {
        withMachines(pond, MOST_MACHINES);
        pond.move(0, 0, 0, 1, true, -1);
        pond.run(0, 1);
        pond.list(1, 2, 5);
        Due.typeAll(pond, "1RA---");
    }

    /** The next machines of the listing have these codes, and just this is known of them. */
    static void listed(BeaverPond pond, String... lines) {
        for (String line : lines) {
            int machine = pond.next();
            String known = pond.known(machine) + Due.certificateOf(pond, machine);
            Due.same(line, "machine " + machine, Due.codeOf(pond, machine) + " " + known);
        }
    }

    static int codeLength(int states, int signs) {
        return states * 3 * signs + states - 1;
    }
}
