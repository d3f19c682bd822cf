/** Promises 17 to 20: prove, known, certificate, check. */
public final class ProofsTest {
    public static void main(String[] args) {
        circles();
        travels();
        backwards();
        backwardLimits();
        nears();
        nearLimits();
        endingOnesAreNotProved();
        provedOnce();
        wrongCalls();
        wrongCallsChangeNothing();
        tablesOfTwoStates();
        Due.end("ProofsTest");
    }

    /** Proved with the bound, not with one less, and the certificate is right. */
    private static void proved(String code, char way, int bound, String certificate) {
        BeaverPond x = new BeaverPond();
        int machine = Due.machineOf(x, code);
        String call = code + ": prove(" + way + ", " + bound + ")";
        if (bound > 1) {
            Due.is(false, call + " with a bound one lower", () -> x.prove(machine, way, bound - 1));
            Due.is('?', call + ": known() behind a lower bound", () -> x.known(machine));
            Due.nothingThere(call + ": check() behind a lower bound", () -> x.check(machine));
        }
        Due.is(true, call, () -> x.prove(machine, way, bound));
        Due.is(way, call + ": known()", () -> x.known(machine));
        Due.same(certificate, call + ": certificate", Due.certificateOf(x, machine));
        Due.is(true, call + ": check()", () -> x.check(machine));
        Due.is(true, call + ": isSound()", x::isSound);
    }

    private static void failed(String code, char way, int bound) {
        BeaverPond x = new BeaverPond();
        int machine = Due.machineOf(x, code);
        String call = code + ": prove(" + way + ", " + bound + ")";
        Due.is(false, call, () -> x.prove(machine, way, bound));
        Due.is('?', call + ": known()", () -> x.known(machine));
        Due.same("[]", call + ": certificate", Due.certificateOf(x, machine));
    }

    private static void circles() {
        proved("0RB1LA_0LA---", 'c', 2, "[0, 2]");
        proved("1RB---_0LC---_---1RB", 'c', 3, "[1, 3]");
        proved("0LB---_0RC---_0RD---_0LA---", 'c', 4, "[0, 4]");
        proved("1LB1RB_1RB1LA", 'c', 4, "[2, 4]");
        // Behind the step 6 it has the state and the place of the step 4, but another tape.
        proved("0RC1LC_1LB1LC_1RB0RA", 'c', 8, "[4, 8]");
        failed("1RA---", 'c', 300);
    }

    private static void travels() {
        proved("1RA---", 't', 1, "[0, 1, 0]");
        proved("2LA------", 't', 1, "[0, 1, 0]");
        proved("1RB0LA_1LA1RB", 't', 3, "[0, 3, 1]");
        proved("1LB0RA_1RA1LB", 't', 3, "[0, 3, 1]");
        // The step 3 is a new one in the state of the step 0, but on the place behind it stands another sign.
        proved("0LB---_0RC0RC_1RA---", 't', 6, "[3, 6, 1]");
        proved("1LB1RA_1RA1LA", 't', 8, "[3, 8, 2]");
        proved("1RB1LA_1LA1RA", 't', 8, "[3, 8, 2]");
        failed("0RB1LA_0LA---", 't', 300);
    }

    private static void backwards() {
        proved("0RB1LB_1LA0RA", 'b', 1, "[0]");
        proved("1RA1LA_0RA---", 'b', 1, "[1]");
        proved("0RB---_0LA---", 'b', 2, "[2]");
        proved("1RB0LA_1LA---", 'b', 3, "[3]");
        // What comes to the stop at once is the beginning, and so is what comes to it in two steps.
        failed("------", 'b', 30);
        failed("1RH1LA", 'b', 30);
        failed("1RB1RB_1RH1RA", 'b', 30);
    }

    private static void backwardLimits() {
        proved("1LA1LA2RD_1LC2RB1LC_---0RB2LD_1LD2RC1LA", 'b', 30, "[30]");
        // The greatest rows have 100, 100 and 104; with more room, the last one would be proved too.
        proved("2RA0LD0LD_1LC1RD2RD_---2RB2RD_0RA1RA2LC", 'b', 21, "[21]");
        proved("1RC1RD---_2LA2RD1RC_0RC0LD0LD_0LB0LA2RC", 'b', 30, "[30]");
        failed("1RB0LD1LD_2RB0LA0LA_---2RD2RD_0RA0LC1RB", 'b', 30);
    }

    private static void nears() {
        proved("1RA---", 'n', 1, "[2, 1]");
        BeaverPond x = new BeaverPond();
        int[] pictures = {2, 3, 4, 5};
        for (int length = 1; length <= 4; length++) {
            int bound = length;
            int machine = Due.machineOf(x, "1LA---");
            Due.is(true, "prove(n, " + bound + ")", () -> x.prove(machine, 'n', bound));
            Due.same("[" + pictures[length - 1] + ", " + length + "]", "certificate", Due.certificateOf(x, machine));
            Due.is(true, "check()", () -> x.check(machine));
        }
        proved("0RA---", 'n', 1, "[1, 1]");
        failed("------", 'n', 4);
        failed("1RH---", 'n', 1);
    }

    private static void nearLimits() {
        BeaverPond x = new BeaverPond();
        int three = Due.machineOf(x, "2LB0RC1RB_2RC2RC0LB_2RA2RA1LB");
        Due.is(true, "300 pictures of length 3", () -> x.prove(three, 'n', 3));
        Due.same("[300, 3]", "certificate", Due.certificateOf(x, three));
        Due.is(true, "check of 300 pictures", () -> x.check(three));
        int four = Due.machineOf(x, "1LC1RA2RB_1LB2RC0LB_1RB2LD0LD_1RA1LC1RD");
        Due.is(true, "300 pictures of length 4", () -> x.prove(four, 'n', 4));
        Due.same("[300, 4]", "certificate", Due.certificateOf(x, four));
        failed("2LD0LA1LD_2LC0LB1RC_1RA1LB0RA_2RB2LD2LA", 'n', 3);
        failed("1RC1LC---_1LA2RC2LC_0LB1RC1LB_0RA1RC0LB", 'n', 3);
    }

    private static void endingOnesAreNotProved() {
        String[] codes = {"1RB1LB_1LA1RH", "1RB---_0LA---", "------", "1RH---", "1RB1RH_1LB0RC_1LC1LA"};
        for (String code : codes) {
            failed(code, 'c', 300);
            failed(code, 't', 300);
            failed(code, 'b', 30);
            failed(code, 'n', 4);
        }
        BeaverPond x = new BeaverPond();
        int stops = Due.machineOf(x, "1RH---");
        x.run(stops, 1);
        Due.is(false, "prove of one that is known to stop", () -> x.prove(stops, 'c', 300));
        Due.is('s', "known()", () -> x.known(stops));
        Due.same("[1]", "certificate", Due.certificateOf(x, stops));
        Due.is(true, "check()", () -> x.check(stops));
    }

    private static void provedOnce() {
        BeaverPond x = new BeaverPond();
        int machine = Due.machineOf(x, "0RB1LA_0LA---");
        Due.is(true, "prove(c)", () -> x.prove(machine, 'c', 2));
        Due.is(true, "prove(t), which would fail", () -> x.prove(machine, 't', 1));
        Due.is(true, "prove(n)", () -> x.prove(machine, 'n', 4));
        Due.is('c', "known()", () -> x.known(machine));
        Due.same("[0, 2]", "certificate", Due.certificateOf(x, machine));
    }

    private static void wrongCalls() {
        BeaverPond x = new BeaverPond();
        int machine = Due.machineOf(x, "1RA---");
        Due.badIndex("prove of machine 1", () -> x.prove(1, 'c', 1));
        Due.badIndex("prove of machine -1 by no way", () -> x.prove(-1, 'x', 0));
        for (char way : new char[] {'a', 's', '?', 'C', 'T', (char) 0, (char) 65535}) {
            Due.badNumber("prove by no way " + way, () -> x.prove(machine, way, 1));
        }
        Object[][] bounds = {{'c', 301}, {'t', 301}, {'b', 31}, {'n', 5}};
        for (Object[] each : bounds) {
            char way = (Character) each[0];
            for (int bound : new int[] {0, -1, Integer.MIN_VALUE, Integer.MAX_VALUE, (Integer) each[1]}) {
                Due.badNumber("prove(" + way + ", " + bound + ")", () -> x.prove(machine, way, bound));
            }
        }
        Due.is('?', "known() behind wrong calls", () -> x.known(machine));
        Due.badIndex("known(1)", () -> x.known(1));
        Due.badIndex("known(-1)", () -> x.known(-1));
        Due.badIndex("check(1)", () -> x.check(1));
        Due.nothingThere("check() of nothing known", () -> x.check(machine));
        Due.badIndex("certificate(1, 0)", () -> x.certificate(1, 0));
        Due.badIndex("certificate(-1, -1)", () -> x.certificate(-1, -1));
        Due.nothingThere("certificate() of nothing known", () -> x.certificate(machine, 0));
    }

    private static void wrongCallsChangeNothing() {
        BeaverPond x = new BeaverPond();
        int machine = Due.machineOf(x, "1RA---");
        x.prove(machine, 't', 300);
        Due.badNumber("prove(t, 301) of a proved one", () -> x.prove(machine, 't', 301));
        Due.badNumber("prove(x, 1) of a proved one", () -> x.prove(machine, 'x', 1));
        Due.badNumber("run(0, -1) of a proved one", () -> x.run(machine, -1));
        Due.is('t', "known()", () -> x.known(machine));
        for (int index : new int[] {-1, 3, Integer.MIN_VALUE, Integer.MAX_VALUE}) {
            Due.nothingThere("certificate(0, " + index + ")", () -> x.certificate(machine, index));
        }
        Due.same("[0, 1, 0]", "certificate", Due.certificateOf(x, machine));
    }

    /** Each of the 149 listed machines of two states and two signs stops or is proved never to. */
    private static void tablesOfTwoStates() {
        BeaverPond x = new BeaverPond();
        x.list(2, 2, 20);
        int[] count = new int[4];
        int[] bounds = {300, 300, 30, 4};
        int all = 0;
        while (x.next() >= 0) {
            int machine = all++;
            for (int way = 0; way < 4; way++) {
                char letter = "ctbn".charAt(way);
                if (x.known(machine) == '?' && x.prove(machine, letter, bounds[way])) {
                    count[way]++;
                    Due.is(true, "check(" + machine + ")", () -> x.check(machine));
                }
            }
        }
        Due.same(149, "machines listed", all);
        Due.same("[17, 107, 6, 0]", "proofs by c, t, b, n", java.util.Arrays.toString(count));
        Due.is(0, "undecided(2, 2)", () -> x.undecided(2, 2));
        Due.is(true, "isSound()", x::isSound);
    }
}
