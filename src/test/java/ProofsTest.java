/** Promises 17 to 20: prove, known, certificate, check, with many machines in one pond. */
public final class ProofsTest {
    private static final String WAYS = "ctbn";
    private static final int[] BOUNDS = {300, 300, 30, 4};

    public static void main(String[] args) {
        oneBehindAnother();
        tablesOfTwoStates();
        Due.end("ProofsTest");
    }

    /** What one proof leaves behind must not be seen by the next one: as in a pond of its own, so beside others. */
    private static void oneBehindAnother() {
        String[] codes = {"2RA0LD0LD_1LC1RD2RD_---2RB2RD_0RA1RA2LC", "0RB---_0LA---", "1RB1LB_1LA1RH", "1LA---", "------",
            "2LB0RC1RB_2RC2RC0LB_2RA2RA1LB", "1LC---_1RA0RC_1RB0LC", "0RC1LC_1LB1LC_1RB0RA", "1LB1RA_1RA1LA",
            "0LB1LB1RD_2LB2LB0RA_---0LA0LA_1RC0LC2RC", "1LB0LD2RA_1RB2LA0LA_2RD1LC2RC_2RC2LD0RA", "1RC---_0RC0LC_1LB0RA"};
        for (int turn = 0; turn < codes.length; turn++) {
            for (int way = 0; way < WAYS.length(); way++) {
                BeaverPond x = new BeaverPond();
                for (int each = 0; each < codes.length; each++) {
                    String code = codes[(turn * each + way + each) % codes.length];
                    int machine = Due.machineOf(x, code);
                    sameAsAlone(x, machine, code, (way + each * turn) % WAYS.length());
                }
                Due.is(true, "isSound()", x::isSound);
            }
        }
    }

    private static void sameAsAlone(BeaverPond x, int machine, String code, int way) {
        BeaverPond alone = new BeaverPond();
        Due.machineOf(alone, code);
        char letter = WAYS.charAt(way);
        String call = code + ": prove(" + letter + ") beside others";
        Due.is(alone.prove(0, letter, BOUNDS[way]), call, () -> x.prove(machine, letter, BOUNDS[way]));
        Due.is(alone.known(0), call + ": known", () -> x.known(machine));
        Due.same(Due.certificateOf(alone, 0), call + ": certificate", Due.certificateOf(x, machine));
        Due.is(Due.answerOf(() -> alone.check(0)), call + ": check", () -> x.check(machine));
    }

    /** Each of the 149 listed machines of two states and two signs stops or is proved never to. */
    private static void tablesOfTwoStates() {
        BeaverPond x = new BeaverPond();
        x.list(2, 2, 20);
        int[] count = new int[4];
        int all = 0;
        while (x.next() >= 0) {
            int machine = all++;
            for (int way = 0; way < WAYS.length(); way++) {
                char letter = WAYS.charAt(way);
                if (x.known(machine) == '?' && x.prove(machine, letter, BOUNDS[way])) {
                    count[way]++;
                    Due.is(true, "check(" + machine + ")", () -> x.check(machine));
                }
            }
        }
        Due.same(149, "machines listed", all);
        Due.same("[17, 107, 6, 0]", "proofs by c, t, b, n", java.util.Arrays.toString(count));
        Due.is(0, "undecided(2, 2)", () -> x.undecided(2, 2));
        Due.is(true, "isSound()", x::isSound);
    }
}
