/** The bounds in promises 17 to 20, on both sides, and that a refused call changes nothing. */
public final class ProofBoundsTest {
    private static final int LEAST = Integer.MIN_VALUE;
    private static final int GREATEST = Integer.MAX_VALUE;
    private static final String WAYS = "ctbn";
    private static final int[] GREATEST_BOUNDS = {300, 300, 30, 4};
    private static final String KINDS = "?sctbn";
    private static final int[] NUMBERS = {0, 1, 2, 3, 1, 2};

    public static void main(String[] args) {
        boundsOfEachWay();
        onlyFourWays();
        proofsNeedAMachine();
        aWrongMachineComesAheadOfAWrongWay();
        onlyIfNothingIsKnown();
        circlesUpToTheBound();
        circlesNeedStatePlaceAndTape();
        travelsUpToTheBound();
        travelsFromTheBeginning();
        travelsNeedFartherPlaces();
        travelsNeedTheFarthestSignToo();
        whatEndsIsNotProved();
        rowsUpToTheBound();
        theFirstRowHasTheNumberZero();
        theBeginningFails();
        whatIsAlmostTheBeginningDoesNotFail();
        signsMustBeAsFarAsTheyAreKnown();
        rowsHaveAtMostAHundred();
        lengthsUpToFour();
        atMostThreeHundredPictures();
        picturesNeedMovesThatDoNotStop();
        knownNeedsAMachine();
        certificatesHaveAnEnd();
        certificatesNeedAMachine();
        checksNeedSomethingKnown();
        Due.end("ProofBoundsTest");
    }

    /** The machine 0 is one of which just this is known. */
    private static void ofKind(BeaverPond x, char kind) {
        String[] codes = {"1RA---", "1RH---", "0RB1LA_0LA---", "1RA---", "0RB---_0LA---", "1LA---"};
        Due.machineOf(x, codes[KINDS.indexOf(kind)]);
        if (kind == 's') {
            x.run(0, 1);
        } else if (kind != '?') {
            x.prove(0, kind, GREATEST_BOUNDS[WAYS.indexOf(kind)]);
        }
    }

    private static void boundsOfEachWay() {
        for (int index = 0; index < WAYS.length(); index++) {
            char way = WAYS.charAt(index);
            int greatest = GREATEST_BOUNDS[index];
            for (int bound : new int[] {LEAST, -1, 0, greatest + 1, greatest + 2, GREATEST}) {
                for (char kind : KINDS.toCharArray()) {
                    String call = "prove(0, " + way + ", " + bound + "), known as " + kind;
                    Twins.badNumber(call, x -> ofKind(x, kind), x -> x.prove(0, way, bound));
                }
            }
            for (int bound = 1; bound <= greatest; bound++) {
                int each = bound;
                BeaverPond x = new BeaverPond();
                Due.machineOf(x, "------");
                Due.is(false, "prove(0, " + way + ", " + bound + ")", () -> x.prove(0, way, each));
            }
        }
    }

    private static void onlyFourWays() {
        for (int number = 0; number < 300; number++) {
            char way = (char) number;
            if (WAYS.indexOf(way) < 0) {
                Twins.badNumber("prove(0, (char) " + number + ", 1)", x -> ofKind(x, '?'), x -> x.prove(0, way, 1));
            }
        }
        Twins.badNumber("prove(0, (char) 65535, 1)", x -> ofKind(x, '?'), x -> x.prove(0, '\uffff', 1));
        for (char kind : KINDS.toCharArray()) {
            Twins.badNumber("prove(0, s, 1), known as " + kind, x -> ofKind(x, kind), x -> x.prove(0, 's', 1));
        }
    }

    private static void proofsNeedAMachine() {
        for (int machine : new int[] {LEAST, -1, Ponds.RICH, GREATEST}) {
            Twins.badIndex("prove(" + machine + ", c, 9)", Ponds::rich, x -> x.prove(machine, 'c', 9));
        }
        BeaverPond x = new BeaverPond();
        Ponds.rich(x);
        Due.is(false, "prove(0, c, 9)", () -> x.prove(0, 'c', 9));
        Due.is(true, "prove of the last machine", () -> x.prove(Ponds.RICH - 1, 't', 9));
    }

    private static void aWrongMachineComesAheadOfAWrongWay() {
        for (int machine : new int[] {-1, Ponds.RICH}) {
            Twins.badIndex("prove(" + machine + ", x, 9)", Ponds::rich, x -> x.prove(machine, 'x', 9));
            Twins.badIndex("prove(" + machine + ", c, 301)", Ponds::rich, x -> x.prove(machine, 'c', 301));
            Twins.badIndex("prove(" + machine + ", n, 0)", Ponds::rich, x -> x.prove(machine, 'n', 0));
        }
    }

    private static void onlyIfNothingIsKnown() {
        for (char kind : "sctbn".toCharArray()) {
            for (int index = 0; index < WAYS.length(); index++) {
                char way = WAYS.charAt(index);
                int greatest = GREATEST_BOUNDS[index];
                String call = "prove(0, " + way + ", .), known as " + kind;
                Twins.leaves(kind != 's', call, x -> ofKind(x, kind), x -> x.prove(0, way, greatest));
                Twins.leaves(kind != 's', call, x -> ofKind(x, kind), x -> x.prove(0, way, 1));
            }
        }
    }

    private static void proved(String code, char way, int bound, String certificate) {
        BeaverPond x = new BeaverPond();
        Due.machineOf(x, code);
        String call = code + ": prove(0, " + way + ", " + bound + ")";
        Due.is(true, call, () -> x.prove(0, way, bound));
        Due.is(way, call + ": known(0)", () -> x.known(0));
        Due.same(certificate, call + ": certificate", Due.certificateOf(x, 0));
        Due.is(true, call + ": check(0)", () -> x.check(0));
        Due.is(true, call + ": isSound()", x::isSound);
        Due.is(0, call + ": undecided", () -> x.undecided(1, 2) + x.undecided(2, 2) + x.undecided(4, 3));
    }

    private static void failed(String code, char way, int bound) {
        String call = code + ": prove(0, " + way + ", " + bound + ")";
        Twins.leaves(false, call, x -> Due.machineOf(x, code), x -> x.prove(0, way, bound));
    }

    /** The certificate is the same for all bounds from the least one on. */
    private static void provedFrom(String code, char way, int least, int greatest, String certificate) {
        if (least > 1) {
            failed(code, way, 1);
            failed(code, way, least - 1);
        }
        proved(code, way, least, certificate);
        if (least < greatest) {
            proved(code, way, least + 1, certificate);
            proved(code, way, greatest, certificate);
        }
    }

    private static void circlesUpToTheBound() {
        provedFrom("0RB1LA_0LA---", 'c', 2, 300, "[0, 2]");
        provedFrom("1RB---_0LC---_---1RB", 'c', 3, 300, "[1, 3]");
        provedFrom("1LB1RB_1RB1LA", 'c', 4, 300, "[2, 4]");
        provedFrom("1LB0LD2RA_1RB2LA0LA_2RD1LC2RC_2RC2LD0RA", 'c', 300, 300, "[298, 300]");
        failed("1LB0LD2RA_1RB2LA0LA_2RD2RA0LD_2RC1RD0RA", 'c', 300);
    }

    private static void circlesNeedStatePlaceAndTape() {
        // The place and the tape are the same behind the step 2, but not the state.
        provedFrom("0LB---_0RC---_0RD---_0LA---", 'c', 4, 300, "[0, 4]");
        // The state and the tape are the same, but not the place.
        failed("0RA---", 'c', 300);
        // Behind the step 6, the state and the place are those of the step 4, but not the tape.
        provedFrom("0RC1LC_1LB1LC_1RB0RA", 'c', 8, 300, "[4, 8]");
    }

    private static void travelsUpToTheBound() {
        provedFrom("1RB0LA_1LA1RB", 't', 3, 300, "[0, 3, 1]");
        provedFrom("1LB0RA_1RA1LB", 't', 3, 300, "[0, 3, 1]");
        provedFrom("1LB1RA_1RA1LA", 't', 8, 300, "[3, 8, 2]");
        provedFrom("1RB1LA_1LA1RA", 't', 8, 300, "[3, 8, 2]");
        provedFrom("0LC2LA1RD_1LD0RD2RD_0RB1LC0RD_2RB2LC1RA", 't', 300, 300, "[236, 300, 6]");
        failed("0RC2RD0LC_1LB2RB1RC_1RB1LC1LA_0LB1LC2RD", 't', 300);
    }

    /** The step 0 is a new one to both sides, and the way back may be 0. */
    private static void travelsFromTheBeginning() {
        provedFrom("1RA---", 't', 1, 300, "[0, 1, 0]");
        provedFrom("1LA---", 't', 1, 300, "[0, 1, 0]");
        provedFrom("2LA------", 't', 1, 300, "[0, 1, 0]");
    }

    private static void travelsNeedFartherPlaces() {
        // It comes to the places 1 and 0 again and again, but only once is it farther than ever.
        failed("0RB---_0LA---", 't', 300);
        failed("0LB---_0RA---", 't', 300);
    }

    private static void travelsNeedTheFarthestSignToo() {
        // The step 3 is a new one in the state of the step 0, but one place back there is another sign.
        provedFrom("0LB---_0RC0RC_1RA---", 't', 6, 300, "[3, 6, 1]");
        provedFrom("0RB---_0LC0LC_1LA---", 't', 6, 300, "[3, 6, 1]");
    }

    /** Also not that it stops: nothing is known of it. */
    private static void whatEndsIsNotProved() {
        // The stop of the last two ones makes the tape as it was, in the state and near the place of the beginning.
        String[] codes = {"------", "1RH---", "1RB---_0LA---", "1RB1LB_1LA1RH", "1RB1RH_0RC1RB_1LC1LA", "1RB0RH_0LA---", "1LB0LH_0RA---"};
        for (String code : codes) {
            for (int bound : new int[] {1, 2, 3, 5, 6, 7, 14, 15, 300}) {
                failed(code, 'c', bound);
                failed(code, 't', bound);
            }
            for (int bound = 1; bound <= 30; bound++) {
                failed(code, 'b', bound);
            }
            for (int length = 1; length <= 4; length++) {
                failed(code, 'n', length);
            }
        }
    }

    private static void rowsUpToTheBound() {
        provedFrom("1RA1LA_0RA---", 'b', 1, 30, "[1]");
        provedFrom("0RB---_0LA---", 'b', 2, 30, "[2]");
        provedFrom("1RB0LA_1LA---", 'b', 3, 30, "[3]");
        provedFrom("1LA1LA2RD_1LC2RB1LC_---0RB2LD_1LD2RC1LA", 'b', 30, 30, "[30]");
        // Here the row 31 would be the first one without any.
        failed("0LB2LB---_2RA0LB2RD_1LD1RA0LD_1RC0LB0RC", 'b', 30);
    }

    private static void theFirstRowHasTheNumberZero() {
        provedFrom("0RA0RA", 'b', 1, 30, "[0]");
        provedFrom("0RB1LB_1LA0RA", 'b', 1, 30, "[0]");
    }

    /** In the first six, no move comes to what could be the beginning: the row behind it would be without any. */
    private static void theBeginningFails() {
        failed("---0RB_0RB0RB", 'b', 1);
        failed("---0RB_0RB0RB", 'b', 30);
        failed("0LH0RB_0RB0RB", 'b', 30);
        failed("0RB0RB_------", 'b', 1);
        failed("0RB0RB_------", 'b', 30);
        failed("0LB1LB_------", 'b', 30);
        failed("1RH1LA", 'b', 30);
        failed("1RB1RB_1RH1RA", 'b', 30);
    }

    private static void whatIsAlmostTheBeginningDoesNotFail() {
        // The state is 0, but the known sign is not blank.
        provedFrom("0RB---_0RB0RB", 'b', 1, 30, "[1]");
        provedFrom("0RB2LH---_0RB0RB0RB", 'b', 1, 30, "[1]");
        // The known sign is blank, but the state is not 0.
        provedFrom("0RA0RA_---0RA", 'b', 1, 30, "[1]");
    }

    private static void signsMustBeAsFarAsTheyAreKnown() {
        // Ahead of B at a 1, A stood to the left of that 1; what comes to A from there writes a 0, so there is nothing ahead.
        provedFrom("0RB---_0LA---", 'b', 2, 30, "[2]");
        // With moves that write a 1, it goes back to the beginning.
        failed("1RB---_1LA---", 'b', 30);
    }

    /** All of these would be proved with more room; the greatest rows have 100, 100, 101, 102 and 104. */
    private static void rowsHaveAtMostAHundred() {
        provedFrom("2RA0LD0LD_1LC1RD2RD_---2RB2RD_0RA1RA2LC", 'b', 21, 30, "[21]");
        provedFrom("1RC1RD---_2LA2RD1RC_0RC0LD0LD_0LB0LA2RC", 'b', 30, 30, "[30]");
        failed("0LB1LB1RD_2LB2LB0RA_---0LA0LA_1RC0LC2RC", 'b', 30);
        failed("1LA0RB0RB_0LA0RC0RD_0LA2RD2LB_---2LA0LC", 'b', 30);
        failed("1RB0LD1LD_2RB0LA0LA_---2RD2RD_0RA0LC1RB", 'b', 30);
    }

    private static void lengthsUpToFour() {
        proved("1RA---", 'n', 1, "[2, 1]");
        proved("1LA---", 'n', 1, "[2, 1]");
        proved("1LA---", 'n', 2, "[3, 2]");
        proved("1LA---", 'n', 3, "[4, 3]");
        proved("1LA---", 'n', 4, "[5, 4]");
        failed("0RC0RB_1LB---_0RB0RC", 'n', 1);
        proved("0RC0RB_1LB---_0RB0RC", 'n', 2, "[5, 2]");
        failed("1RC---_0RC0LC_1LB0RA", 'n', 2);
        proved("1RC---_0RC0LC_1LB0RA", 'n', 3, "[21, 3]");
        failed("1LC---_1RA0RC_1RB0LC", 'n', 3);
        proved("1LC---_1RA0RC_1RB0LC", 'n', 4, "[41, 4]");
    }

    private static void atMostThreeHundredPictures() {
        proved("2LB0RC1RB_2RC2RC0LB_2RA2RA1LB", 'n', 3, "[300, 3]");
        proved("1LC1RA2RB_1LB2RC0LB_1RB2LD0LD_1RA1LC1RD", 'n', 4, "[300, 4]");
        // Of these, 301 are needed.
        failed("2LD0LA1LD_2LC0LB1RC_1RA1LB0RA_2RB2LD2LA", 'n', 3);
        failed("1RC1LC---_1LA2RC2LC_0LB1RC1LB_0RA1RC0LB", 'n', 3);
    }

    private static void picturesNeedMovesThatDoNotStop() {
        for (int length = 1; length <= 4; length++) {
            failed("------", 'n', length);
            failed("0RH0RA", 'n', length);
            failed("0RB0RB_---0RB", 'n', length);
            failed("0RB0RB_1LH0RB", 'n', length);
            // What is not needed may stop.
            proved("0RA---", 'n', length, "[1, " + length + "]");
            proved("0RA1LH", 'n', length, "[1, " + length + "]");
        }
    }

    private static void knownNeedsAMachine() {
        for (char kind : KINDS.toCharArray()) {
            Twins.leaves(kind, "known(0), known as " + kind, x -> ofKind(x, kind), x -> x.known(0));
            for (int machine : new int[] {LEAST, -1, 1, GREATEST}) {
                Twins.badIndex("known(" + machine + ")", x -> ofKind(x, kind), x -> x.known(machine));
            }
        }
    }

    private static void certificatesHaveAnEnd() {
        for (int kind = 0; kind < KINDS.length(); kind++) {
            char known = KINDS.charAt(kind);
            int numbers = NUMBERS[kind];
            for (int index : new int[] {LEAST, -1, numbers, numbers + 1, 3, GREATEST}) {
                String call = "certificate(0, " + index + "), known as " + known;
                Twins.nothingThere(call, x -> ofKind(x, known), x -> x.certificate(0, index));
            }
            BeaverPond x = new BeaverPond();
            ofKind(x, known);
            for (int index = 0; index < numbers; index++) {
                int each = index;
                Due.same(true, "certificate(0, " + index + ") is a number, known as " + known,
                    Due.answerOf(() -> x.certificate(0, each)) instanceof Integer);
            }
        }
    }

    private static void certificatesNeedAMachine() {
        for (char kind : KINDS.toCharArray()) {
            for (int machine : new int[] {LEAST, -1, 1, GREATEST}) {
                Twins.badIndex("certificate(" + machine + ", 0)", x -> ofKind(x, kind), x -> x.certificate(machine, 0));
                // A wrong machine comes ahead of a wrong index.
                Twins.badIndex("certificate(" + machine + ", -1)", x -> ofKind(x, kind), x -> x.certificate(machine, -1));
                Twins.badIndex("certificate(" + machine + ", 3)", x -> ofKind(x, kind), x -> x.certificate(machine, 3));
            }
        }
    }

    private static void checksNeedSomethingKnown() {
        for (char kind : KINDS.toCharArray()) {
            Object due = kind == '?' ? "throws NoSuchElementException" : (Object) true;
            Twins.leaves(due, "check(0), known as " + kind, x -> ofKind(x, kind), x -> x.check(0));
            for (int machine : new int[] {LEAST, -1, 1, GREATEST}) {
                Twins.badIndex("check(" + machine + ")", x -> ofKind(x, kind), x -> x.check(machine));
            }
        }
    }
}
