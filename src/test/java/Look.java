/** What can be seen of a pond. Looking reads, lists and adds, so a pond is looked at once, by some 350 calls at most. */
final class Look {
    private static final int MACHINES = 6;
    private static final int LONGEST_CODE = 39;
    private static final int LISTED = 4;

    private final BeaverPond pond;
    private final StringBuilder seen = new StringBuilder();

    private Look(BeaverPond pond) {
        this.pond = pond;
    }

    static String at(BeaverPond pond) {
        Look look = new Look(pond);
        look.atRun();
        look.atMachines();
        look.atFigures();
        look.atTyped();
        look.atListing();
        look.see("machine(1, 2)", () -> pond.machine(1, 2));
        return look.seen.toString();
    }

    private Object see(String call, Due.Call asked) {
        Object answer = Due.answerOf(asked);
        seen.append(call).append(' ').append(answer).append('\n');
        return answer;
    }

    private void atRun() {
        see("outcome()", pond::outcome);
        see("marks()", pond::marks);
        see("space()", pond::space);
        see("rows()", pond::rows);
        see("head()", pond::head);
        for (int place = -3; place <= 3; place++) {
            int where = place;
            see("sign(" + place + ")", () -> pond.sign(where));
        }
    }

    private void atMachines() {
        for (int machine = 0; machine < MACHINES; machine++) {
            atMachine(machine);
        }
    }

    private void atMachine(int machine) {
        if (!(see("known(" + machine + ")", () -> pond.known(machine)) instanceof Character)) {
            return;
        }
        for (int index = 0; index <= 3; index++) {
            int each = index;
            see("certificate(" + machine + ", " + index + ")", () -> pond.certificate(machine, each));
        }
        atCode(machine);
    }

    private void atCode(int machine) {
        Object letter = ' ';
        for (int index = 0; index <= LONGEST_CODE && letter instanceof Character; index++) {
            int each = index;
            letter = Due.answerOf(() -> pond.code(machine, each));
            seen.append(letter);
        }
        seen.append('\n');
    }

    private void atFigures() {
        for (int states = 1; states <= 4; states++) {
            for (int signs = 2; signs <= 3; signs++) {
                int toldStates = states;
                int toldSigns = signs;
                see("record", () -> pond.record(toldStates, toldSigns));
                see("undecided", () -> pond.undecided(toldStates, toldSigns));
            }
        }
        see("knownShare()", pond::knownShare);
        see("meanSteps()", pond::meanSteps);
        see("isSound()", pond::isSound);
    }

    private void atTyped() {
        Object read = see("read()", pond::read);
        if (read instanceof Integer) {
            atCode((Integer) read);
        }
        see("wipe()", pond::wipe);
    }

    private void atListing() {
        for (int each = 0; each < LISTED; each++) {
            Object next = see("next()", pond::next);
            if (next instanceof Integer && (Integer) next >= 0) {
                atMachine((Integer) next);
            }
        }
    }
}
