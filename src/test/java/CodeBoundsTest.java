/** The bounds in promises 5 to 9, on both sides, and that a refused call changes nothing. */
public final class CodeBoundsTest {
    private static final int LEAST = Integer.MIN_VALUE;
    private static final int GREATEST = Integer.MAX_VALUE;
    private static final String LETTERS = "012LRABCDH-_";
    private static final int CALLS_TO_KEEP_FREE = 12;

    public static void main(String[] args) {
        onlyLettersOfCodesAreTyped();
        atMostSixtyLettersAreTyped();
        aWrongLetterComesAheadOfSixty();
        wipeTellsHowManyThereWere();
        codesOfEachSizeAreRead();
        whatIsTypedIsJustThat();
        eachLetterHasItsPlace();
        sixtyLettersAreNoCode();
        atMostTwoHundredMachinesAreRead();
        noCodeComesAheadOfAFullPond();
        codesOfEachSizeHaveAnEnd();
        codesNeedAMachine();
        likenessNeedsTwoMachines();
        likenessNeedsTheSameSize();
        Due.end("CodeBoundsTest");
    }

    private static void onlyLettersOfCodesAreTyped() {
        BeaverPond x = new BeaverPond();
        for (int number = 0; number <= Character.MAX_VALUE; number++) {
            char letter = (char) number;
            if (number % (512 - CALLS_TO_KEEP_FREE) == 0) {
                x = new BeaverPond();
            }
            BeaverPond y = x;
            if (LETTERS.indexOf(letter) >= 0) {
                Due.is(1, "type((char) " + number + ")", () -> y.type(letter));
                y.wipe();
            } else {
                Due.badNumber("type((char) " + number + ")", () -> y.type(letter));
            }
        }
        for (char letter : new char[] {0, '/', '3', '@', 'E', 'G', 'I', 'K', 'M', 'Q', 'S', ',', '.', '^', '`', 'a', 'h', 'l', 'r', ' ', '\uffff'}) {
            Twins.badNumber("type((char) " + (int) letter + ")", Ponds::rich, y -> y.type(letter));
        }
    }

    private static void sixtyTyped(BeaverPond x) {
        Ponds.rich(x);
        x.wipe();
        Due.typeAll(x, LETTERS.repeat(Ponds.MOST_LETTERS / LETTERS.length()));
    }

    private static void atMostSixtyLettersAreTyped() {
        BeaverPond x = new BeaverPond();
        for (int typed = 1; typed <= Ponds.MOST_LETTERS; typed++) {
            Due.is(typed, "the letter " + typed, () -> x.type('L'));
        }
        Due.badState("the letter 61", () -> x.type('L'));
        Due.is(Ponds.MOST_LETTERS, "wipe() behind it", x::wipe);
        Due.is(1, "a letter behind wipe()", () -> x.type('L'));
        for (char letter : LETTERS.toCharArray()) {
            Twins.badState("type(" + letter + ") behind 60", CodeBoundsTest::sixtyTyped, y -> y.type(letter));
        }
    }

    private static void aWrongLetterComesAheadOfSixty() {
        Twins.badNumber("type(E) behind 60", CodeBoundsTest::sixtyTyped, x -> x.type('E'));
        Twins.badNumber("type(3) behind 60", CodeBoundsTest::sixtyTyped, x -> x.type('3'));
    }

    private static void wipeTellsHowManyThereWere() {
        for (int typed = 0; typed <= Ponds.MOST_LETTERS; typed++) {
            BeaverPond x = new BeaverPond();
            Due.typeAll(x, "H".repeat(typed));
            Due.is(typed, "wipe() behind " + typed, x::wipe);
            Due.is(0, "wipe() again", x::wipe);
        }
    }

    /** A code of the size with every write, side and next state that there is. */
    private static String codeOf(int[] size) {
        StringBuilder code = new StringBuilder();
        for (int state = 0; state < size[0]; state++) {
            code.append(state == 0 ? "" : "_");
            for (int sign = 0; sign < size[1]; sign++) {
                int each = state * size[1] + sign;
                code.append("210".charAt(3 - size[1] + each % size[1])).append("RL".charAt(each % 2));
                code.append(each == 0 ? 'H' : "ABCD".charAt((each + 1) % size[0]));
            }
        }
        return code.toString();
    }

    private static void codesOfEachSizeAreRead() {
        BeaverPond x = new BeaverPond();
        for (int number = 0; number < Ponds.SIZES.length; number++) {
            String code = codeOf(Ponds.SIZES[number]);
            Due.same(Ponds.codeLength(Ponds.SIZES[number][0], Ponds.SIZES[number][1]), "the letters of " + code, code.length());
            Due.typeAll(x, code);
            Due.is(number, "read() of " + code, x::read);
            Due.is(0, "wipe() behind read() of " + code, x::wipe);
        }
        for (int number = 0; number < Ponds.SIZES.length; number++) {
            BeaverPond y = new BeaverPond();
            String code = codeOf(Ponds.SIZES[number]);
            Due.same(code, "the code of " + code, Due.codeOf(y, Due.machineOf(y, code)));
            int[] size = Ponds.SIZES[number];
            Due.is(1, "undecided() of the size of " + code, () -> y.undecided(size[0], size[1]));
        }
    }

    private static void noCode(String letters) {
        Twins.badNumber("read() of " + letters, x -> Due.typeAll(x, letters), BeaverPond::read);
    }

    private static void whatIsTypedIsJustThat() {
        noCode("");
        noCode("_");
        noCode("---");
        for (int[] size : Ponds.SIZES) {
            String code = codeOf(size);
            noCode(code.substring(1));
            noCode(code.substring(0, code.length() - 1));
            for (char letter : LETTERS.toCharArray()) {
                noCode(code + letter);
                noCode(letter + code);
            }
            if (size[0] > 1) {
                noCode(code.replace("_", "") + "_".repeat(size[0] - 1));
                noCode(code.replace("_", ""));
                noCode(code.replace("_", "__"));
            }
        }
        noCode("------_---------");
        noCode("---------_------");
        noCode("------_------_------_------_------");
        noCode("---------_---------_---------_---------_---------");
    }

    /** Every letter in the place of every other one: it is a code if it matches what the document says of codes. */
    private static void eachLetterHasItsPlace() {
        for (int[] size : Ponds.SIZES) {
            String move = "([" + "012".substring(0, size[1]) + "][LR][H" + "ABCD".substring(0, size[0]) + "]|---)";
            String states = (move + "{" + size[1] + "}_").repeat(size[0]);
            String form = states.substring(0, states.length() - 1);
            String empty = ("---".repeat(size[1]) + "_").repeat(size[0]).substring(0, codeOf(size).length());
            for (String code : new String[] {codeOf(size), empty}) {
                for (int index = 0; index < code.length(); index++) {
                    for (char letter : LETTERS.toCharArray()) {
                        String changed = code.substring(0, index) + letter + code.substring(index + 1);
                        BeaverPond x = new BeaverPond();
                        Due.typeAll(x, changed);
                        boolean isCode = changed.matches(form);
                        Due.is(isCode ? (Object) 0 : "throws IllegalArgumentException", "read() of " + changed, x::read);
                        Due.is(isCode ? 0 : changed.length(), "wipe() behind read() of " + changed, x::wipe);
                    }
                }
            }
        }
    }

    private static void sixtyLettersAreNoCode() {
        Twins.badNumber("read() of 60 letters", CodeBoundsTest::sixtyTyped, BeaverPond::read);
    }

    private static void atMostTwoHundredMachinesAreRead() {
        BeaverPond x = new BeaverPond();
        Ponds.withMachines(x, Ponds.MOST_MACHINES - 1);
        Due.typeAll(x, "1RA---");
        Due.is(199, "read() of the last machine", x::read);
        Due.typeAll(x, "1RA---");
        Due.badState("read() of one too many", x::read);
        Due.is(6, "wipe() behind it", x::wipe);
        Twins.badState("read() in a full pond", Ponds::full, BeaverPond::read);
    }

    private static void noCodeComesAheadOfAFullPond() {
        Twins.badNumber("read() of nothing in a full pond", x -> Ponds.withMachines(x, Ponds.MOST_MACHINES), BeaverPond::read);
        Twins.badNumber("read() of no code in a full pond", x -> {
            Ponds.full(x);
            x.type('-');
        }, BeaverPond::read);
    }

    private static void codesOfEachSizeHaveAnEnd() {
        for (int[] size : Ponds.SIZES) {
            int last = Ponds.codeLength(size[0], size[1]) - 1;
            BeaverPond x = new BeaverPond();
            x.machine(size[0], size[1]);
            Due.is('-', "the first letter", () -> x.code(0, 0));
            Due.is('-', "the letter " + last, () -> x.code(0, last));
            for (int index : new int[] {LEAST, -1, last + 1, last + 2, GREATEST}) {
                Twins.badIndex("code(0, " + index + ")", y -> y.machine(size[0], size[1]), y -> y.code(0, index));
            }
            for (int state = 1; state < size[0]; state++) {
                int between = state * (3 * size[1] + 1) - 1;
                Due.is('-', "the letter " + (between - 1), () -> x.code(0, between - 1));
                Due.is('_', "the letter " + between, () -> x.code(0, between));
                Due.is('-', "the letter " + (between + 1), () -> x.code(0, between + 1));
            }
        }
    }

    private static void codesNeedAMachine() {
        for (int machine : new int[] {LEAST, -1, Ponds.RICH, GREATEST}) {
            Twins.badIndex("code(" + machine + ", 0)", Ponds::rich, x -> x.code(machine, 0));
            Twins.badIndex("code(" + machine + ", -1)", Ponds::rich, x -> x.code(machine, -1));
        }
        BeaverPond x = new BeaverPond();
        Ponds.rich(x);
        Due.is('1', "code(0, 0)", () -> x.code(0, 0));
        Due.is('0', "code of the last machine", () -> x.code(Ponds.RICH - 1, 0));
    }

    private static void likenessNeedsTwoMachines() {
        for (int machine : new int[] {LEAST, -1, Ponds.RICH, GREATEST}) {
            Twins.badIndex("areAlike(" + machine + ", 0)", Ponds::rich, x -> x.areAlike(machine, 0));
            Twins.badIndex("areAlike(0, " + machine + ")", Ponds::rich, x -> x.areAlike(0, machine));
            Twins.badIndex("areAlike(" + machine + ", the same)", Ponds::rich, x -> x.areAlike(machine, machine));
        }
        BeaverPond x = new BeaverPond();
        Ponds.rich(x);
        Due.is(true, "areAlike(0, 0)", () -> x.areAlike(0, 0));
        Due.is(true, "areAlike of the last machine", () -> x.areAlike(Ponds.RICH - 1, Ponds.RICH - 1));
        Due.is(false, "areAlike(0, the last machine)", () -> x.areAlike(0, Ponds.RICH - 1));
        Due.is(false, "areAlike(the last machine, 0)", () -> x.areAlike(Ponds.RICH - 1, 0));
    }

    private static void likenessNeedsTheSameSize() {
        BeaverPond x = new BeaverPond();
        for (int[] size : Ponds.SIZES) {
            x.machine(size[0], size[1]);
        }
        for (int machine = 0; machine < Ponds.SIZES.length; machine++) {
            for (int other = 0; other < Ponds.SIZES.length; other++) {
                int one = machine;
                int two = other;
                Due.is(one == two, "areAlike(" + one + ", " + two + ") without moves", () -> x.areAlike(one, two));
            }
        }
    }
}
