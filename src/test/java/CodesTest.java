/** Promises 5 to 9: type, wipe, read, code, areAlike. */
public final class CodesTest {
    public static void main(String[] args) {
        type();
        read();
        wrongCodes();
        readInFullPond();
        code();
        likeness();
        likenessOfFour();
        Due.end("CodesTest");
    }

    private static void type() {
        BeaverPond x = new BeaverPond();
        String letters = "012LRABCDH-_";
        for (char letter = 0; letter < 400; letter++) {
            char each = letter;
            if (letters.indexOf(each) < 0) {
                Due.badNumber("type((char) " + (int) each + ")", () -> x.type(each));
            }
        }
        Due.badNumber("type((char) 65535)", () -> x.type((char) 65535));
        for (int typed = 1; typed <= 60; typed++) {
            char each = letters.charAt(typed % letters.length());
            Due.is(typed, "type(" + each + ")", () -> x.type(each));
        }
        Due.badState("a letter 61", () -> x.type('0'));
        Due.badNumber("a wrong letter 61", () -> x.type('E'));
        Due.is(60, "wipe()", x::wipe);
        Due.is(0, "wipe() again", x::wipe);
        Due.is(1, "type behind wipe()", () -> x.type('_'));
    }

    private static void read() {
        BeaverPond x = new BeaverPond();
        String[] codes = {"------", "1RA0LH", "2LA---0RH", "1RB1LB_1LA1RH", "0RB2LA1RA_1LA2RB---",
            "1RB---_1LC0RA_------", "1RB2LC1RH_2LA2RB1LB_0RC0RC0RC", "1RB1LB_1LA0LC_1RH1LD_1RD0RA",
            "1RB2LC1RD_2LA2RB1LB_0RC0RC0RH_---2LD---"};
        for (int number = 0; number < codes.length; number++) {
            Due.typeAll(x, codes[number]);
            Due.is(number, "read() of " + codes[number], x::read);
            Due.is(0, "wipe() behind read()", x::wipe);
        }
        for (int number = 0; number < codes.length; number++) {
            Due.same(codes[number], "the code of " + number, Due.codeOf(x, number));
        }
    }

    private static void wrongCodes() {
        String[] wrong = {"", "-", "---", "1RA", "-----", "-------", "1RB---", "2RA---", "1RA--H", "1--1RA", "-RA1RA", "A1R---",
            "1HA---", "11A---", "1R-1RA", "LRA---", "1R0---", "------_", "_------", "------_---", "------_---------",
            "---------_------", "------------", "------1------", "1RC---_------", "---1RA_2RB---", "2RA------_3",
            "------_------_------_------_------", "---------_---------_------", "---------------", "1RD1RA_1RA1RA_1RA1RA",
            "------_-----_-------", "1RB1LA_1LA1RB_", "1RB1LA 1LA1RB"};
        for (String code : wrong) {
            BeaverPond x = new BeaverPond();
            int count = 0;
            for (char letter : code.toCharArray()) {
                if (!"throws IllegalArgumentException".equals(Due.answerOf(() -> x.type(letter)))) {
                    count++;
                }
            }
            Due.badNumber("read() of " + code, x::read);
            Due.badIndex("known(0)", () -> x.known(0));
            Due.is(count, "wipe() behind the wrong code " + code, x::wipe);
        }
    }

    private static void readInFullPond() {
        BeaverPond x = new BeaverPond();
        for (int number = 0; number < 200; number++) {
            x.machine(1, 2);
        }
        Due.badNumber("read() of nothing in a full pond", x::read);
        Due.typeAll(x, "1RA---");
        Due.badState("read() in a full pond", x::read);
        Due.is(6, "wipe() behind it", x::wipe);
    }

    private static void code() {
        BeaverPond x = new BeaverPond();
        int two = Due.machineOf(x, "1RB1LB_1LA1RH");
        int three = Due.machineOf(x, "0LA------_2LH---1RB");
        Due.is('1', "code(0, 0)", () -> x.code(two, 0));
        Due.is('_', "code(0, 6)", () -> x.code(two, 6));
        Due.is('H', "code(0, 12)", () -> x.code(two, 12));
        Due.is('_', "code(1, 9)", () -> x.code(three, 9));
        Due.is('B', "code(1, 18)", () -> x.code(three, 18));
        Due.badIndex("code(0, 13)", () -> x.code(two, 13));
        Due.badIndex("code(1, 19)", () -> x.code(three, 19));
        Due.badIndex("code(0, -1)", () -> x.code(two, -1));
        Due.badIndex("code(0, the least)", () -> x.code(two, Integer.MIN_VALUE));
        Due.badIndex("code(0, the greatest)", () -> x.code(two, Integer.MAX_VALUE));
        Due.badIndex("code(2, 0)", () -> x.code(2, 0));
        Due.badIndex("code(-1, 0)", () -> x.code(-1, 0));
    }

    private static void alike(boolean due, String one, String other) {
        BeaverPond x = new BeaverPond();
        int first = Due.machineOf(x, one);
        int second = Due.machineOf(x, other);
        Due.is(due, "areAlike of " + one + " and " + other, () -> x.areAlike(first, second));
        Due.is(due, "areAlike of " + other + " and " + one, () -> x.areAlike(second, first));
        Due.is(true, "areAlike with itself", () -> x.areAlike(first, first));
    }

    private static void likeness() {
        alike(true, "1RB1LB_1LA1RH", "1RB1LB_1LA1RH");
        alike(true, "1RB1LB_1LA1RH", "1LB1RB_1RA1LH");
        alike(false, "1RB1LB_1LA1RH", "1LB1RB_1RA1RH");
        alike(false, "1RB1LB_1LA1RH", "1RB1LB_1LA---");
        alike(false, "1RB1LB_1LA1RH", "1RB1LB_0LA1RH");
        alike(false, "1RB1LB_1LA1RH", "1RB1LB_1LB1RH");
        alike(false, "1RA---", "------");
        alike(false, "1RA---", "0RA---");
        alike(false, "------", "---------");
        alike(false, "------", "------_------");
        alike(false, "1RB---_0LA---", "0LA---_1RB---");
        alike(false, "1RA---", "---1RA");
        alike(true, "1RB---_0LC1RH_------", "1RC---_------_0LB1RH");
        alike(true, "1RB---_0LC1RH_------", "1LC---_------_0RB1LH");
        alike(false, "1RB---_0LC1RH_------", "1LC---_------_0RB1RH");
        alike(false, "1RA2RA---", "2RA1RA---");
        BeaverPond x = new BeaverPond();
        x.machine(1, 2);
        Due.badIndex("areAlike(0, 1)", () -> x.areAlike(0, 1));
        Due.badIndex("areAlike(1, 0)", () -> x.areAlike(1, 0));
        Due.badIndex("areAlike(-1, 0)", () -> x.areAlike(-1, 0));
        Due.badIndex("areAlike(0, the least)", () -> x.areAlike(0, Integer.MIN_VALUE));
    }

    /** All six orders of the names B, C, D, each in a mirror too. */
    private static void likenessOfFour() {
        String one = "1RB0LC2RD_2LA1RC1RH_0LB---1LD_1RA2RC0LB";
        String[] orders = {"BCD", "BDC", "CBD", "CDB", "DBC", "DCB"};
        for (String order : orders) {
            alike(true, one, renamed(one, "A" + order, false));
            alike(true, one, renamed(one, "A" + order, true));
        }
        alike(false, one, renamed(one, "BACD", false));
        alike(false, one, renamed(one, "ACDB", false).replace("1RH", "1LH"));
    }

    private static String renamed(String code, String names, boolean mirrored) {
        String[] parts = code.split("_");
        String[] moved = new String[parts.length];
        for (int state = 0; state < parts.length; state++) {
            StringBuilder text = new StringBuilder();
            for (char letter : parts[state].toCharArray()) {
                int old = "ABCD".indexOf(letter);
                int side = mirrored ? "LR".indexOf(letter) : -1;
                text.append(old >= 0 ? names.charAt(old) : side >= 0 ? "RL".charAt(side) : letter);
            }
            moved["ABCD".indexOf(names.charAt(state))] = text.toString();
        }
        return String.join("_", moved);
    }
}
