/** Promises 5 to 9: codes are typed, read and told, and likeness. */
public final class CodesTest {
    public static void main(String[] args) {
        read();
        wrongCodes();
        likeness();
        theStateZeroKeepsItsName();
        likenessOfFour();
        Due.end("CodesTest");
    }

    private static void read() {
        BeaverPond x = new BeaverPond();
        String[] codes = {"------", "1RA0LH", "2LA---0RH", "1RB1LB_1LA1RH", "0RB2LA1RA_1LA2RB---",
            "1RB---_1LC0RA_------", "1RB2LC1RH_2LA2RB1LB_0RC0RC0RC", "1RB1LB_1LA0LC_1RH1LD_1RD0RA",
            "1RB2LC1RD_2LA2RB1LB_0RC0RC0RH_---2LD---"};
        for (int number = 0; number < codes.length; number++) {
            Due.typeAll(x, codes[number]);
            Due.is(number, "read() of " + codes[number], x::read);
            Due.is(0, "wipe() behind read()", x::wipe);
        }
        for (int number = 0; number < codes.length; number++) {
            Due.same(codes[number], "the code of " + number, Due.codeOf(x, number));
        }
    }

    private static void wrongCodes() {
        String[] wrong = {"", "-", "---", "1RA", "-----", "-------", "1RB---", "2RA---", "1RA--H", "1--1RA", "-RA1RA", "A1R---",
            "1HA---", "11A---", "1R-1RA", "LRA---", "1R0---", "------_", "_------", "------_---", "------_---------",
            "---------_------", "------------", "------1------", "1RC---_------", "---1RA_2RB---", "2RA------_3",
            "------_------_------_------_------", "---------_---------_------", "---------------", "1RD1RA_1RA1RA_1RA1RA",
            "------_-----_-------", "1RB1LA_1LA1RB_", "1RB1LA 1LA1RB"};
        for (String code : wrong) {
            BeaverPond x = new BeaverPond();
            int count = 0;
            for (char letter : code.toCharArray()) {
                if (!"throws IllegalArgumentException".equals(Due.answerOf(() -> x.type(letter)))) {
                    count++;
                }
            }
            Due.badNumber("read() of " + code, x::read);
            Due.badIndex("known(0)", () -> x.known(0));
            Due.is(count, "wipe() behind the wrong code " + code, x::wipe);
        }
    }

    private static void alike(boolean due, String one, String other) {
        BeaverPond x = new BeaverPond();
        int first = Due.machineOf(x, one);
        int second = Due.machineOf(x, other);
        Due.is(due, "areAlike of " + one + " and " + other, () -> x.areAlike(first, second));
        Due.is(due, "areAlike of " + other + " and " + one, () -> x.areAlike(second, first));
        Due.is(true, "areAlike with itself", () -> x.areAlike(first, first));
    }

    private static void likeness() {
        alike(true, "1RB1LB_1LA1RH", "1RB1LB_1LA1RH");
        alike(true, "1RB1LB_1LA1RH", "1LB1RB_1RA1LH");
        alike(false, "1RB1LB_1LA1RH", "1LB1RB_1RA1RH");
        alike(false, "1RB1LB_1LA1RH", "1RB1LB_1LA---");
        alike(false, "1RB1LB_1LA1RH", "1RB1LB_0LA1RH");
        alike(false, "1RB1LB_1LA1RH", "1RB1LB_1LB1RH");
        alike(false, "1RA---", "------");
        alike(false, "1RA---", "0RA---");
        alike(false, "------", "---------");
        alike(false, "------", "------_------");
        alike(false, "1RB---_0LA---", "0LA---_1RB---");
        alike(false, "1RA---", "---1RA");
        alike(true, "1RB---_0LC1RH_------", "1RC---_------_0LB1RH");
        alike(true, "1RB---_0LC1RH_------", "1LC---_------_0RB1LH");
        alike(false, "1RB---_0LC1RH_------", "1LC---_------_0RB1RH");
        alike(false, "1RA2RA---", "2RA1RA---");
    }

    private static void theStateZeroKeepsItsName() {
        alike(false, "1RB---_------", "------_1RA---");
        alike(false, "1RA---_------", "------_1RB---");
        alike(true, "------_1RB---_------", "------_------_1RC---");
        alike(true, "------_1RB---_------", "------_------_1LC---");
        alike(true, "------_1RH---_------_------", "------_------_------_1LH---");
        alike(false, "------_1RH---_------_------", "------_------_------_1LB---");
        alike(true, "------_1RA---_1LB---", "------_1RC---_1LA---");
        alike(false, "------_1RA---_1LB---", "------_1RC---_1RA---");
    }

    /** All six orders of the names B, C, D, each in a mirror too. */
    private static void likenessOfFour() {
        String one = "1RB0LC2RD_2LA1RC1RH_0LB---1LD_1RA2RC0LB";
        String[] orders = {"BCD", "BDC", "CBD", "CDB", "DBC", "DCB"};
        for (String order : orders) {
            alike(true, one, renamed(one, "A" + order, false));
            alike(true, one, renamed(one, "A" + order, true));
        }
        alike(false, one, renamed(one, "BACD", false));
        alike(false, one, renamed(one, "ACDB", false).replace("1RH", "1LH"));
    }

    private static String renamed(String code, String names, boolean mirrored) {
        String[] parts = code.split("_");
        String[] moved = new String[parts.length];
        for (int state = 0; state < parts.length; state++) {
            StringBuilder text = new StringBuilder();
            for (char letter : parts[state].toCharArray()) {
                int old = "ABCD".indexOf(letter);
                int side = mirrored ? "LR".indexOf(letter) : -1;
                text.append(old >= 0 ? names.charAt(old) : side >= 0 ? "RL".charAt(side) : letter);
            }
            moved["ABCD".indexOf(names.charAt(state))] = text.toString();
        }
        return String.join("_", moved);
    }
}
