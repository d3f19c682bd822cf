/** Two ponds are made alike, and one of them is asked something that changes nothing: both must look alike behind it. */
final class Twins {
    interface Making {
        void make(BeaverPond pond);
    }

    interface Asking {
        Object answer(BeaverPond pond);
    }

    private Twins() {
    }

    static void badNumber(String what, Making making, Asking call) {
        refused("IllegalArgumentException", what, making, call);
    }

    static void badIndex(String what, Making making, Asking call) {
        refused("IndexOutOfBoundsException", what, making, call);
    }

    static void badState(String what, Making making, Asking call) {
        refused("IllegalStateException", what, making, call);
    }

    static void nothingThere(String what, Making making, Asking call) {
        refused("NoSuchElementException", what, making, call);
    }

    static void noFigure(String what, Making making, Asking call) {
        refused("ArithmeticException", what, making, call);
    }

    private static void refused(String exception, String what, Making making, Asking call) {
        leaves("throws " + exception, what, making, call);
    }

    static void leaves(Object due, String what, Making making, Asking call) {
        BeaverPond asked = new BeaverPond();
        BeaverPond other = new BeaverPond();
        making.make(asked);
        making.make(other);
        Due.is(due, what, () -> call.answer(asked));
        Due.same("the same", "what can be seen behind " + what, difference(Look.at(other).split("\n"), Look.at(asked).split("\n")));
    }

    private static String difference(String[] due, String[] seen) {
        for (int line = 0; line < Math.max(due.length, seen.length); line++) {
            String one = line < due.length ? due[line] : "nothing";
            String other = line < seen.length ? seen[line] : "nothing";
            if (!one.equals(other)) {
                return "'" + other + "' in place of '" + one + "'";
            }
        }
        return "the same";
    }
}
