import java.util.Arrays;

/** Counts the calls whose answer, or exception, is not the one that is due. */
final class Due {
    private static int asked;
    private static int wrong;

    interface Call {
        Object answer();
    }

    interface Deed {
        void happen();
    }

    private Due() {
    }

    static Object answerOf(Call call) {
        try {
            return call.answer();
        } catch (RuntimeException thrown) {
            return thrower(thrown) + thrown.getClass().getSimpleName();
        }
    }

    /** A pond must throw by itself: what the Java machine or the library throws in its place is a fault. */
    private static String thrower(RuntimeException thrown) {
        StackTraceElement[] trace = thrown.getStackTrace();
        String place = trace.length == 0 ? "" : trace[0].getClassName();
        boolean own = place.startsWith("BeaverPond") || place.startsWith("NaivePond");
        return own && !"/ by zero".equals(thrown.getMessage()) ? "throws " : "lets " + place + " throw ";
    }

    static void is(Object want, String what, Call call) {
        same(want, what, answerOf(call));
    }

    static void same(Object want, String what, Object got) {
        asked++;
        if (!want.equals(got)) {
            wrong++;
            System.out.println(what + " answered " + got + ", due is " + want);
        }
    }

    static void badNumber(String what, Call call) {
        is("throws IllegalArgumentException", what, call);
    }

    static void badIndex(String what, Call call) {
        is("throws IndexOutOfBoundsException", what, call);
    }

    static void badState(String what, Call call) {
        is("throws IllegalStateException", what, call);
    }

    static void nothingThere(String what, Call call) {
        is("throws NoSuchElementException", what, call);
    }

    static void noFigure(String what, Call call) {
        is("throws ArithmeticException", what, call);
    }

    /** Types a code and reads it, and answers the number of the machine. */
    static int machineOf(BeaverPond pond, String code) {
        typeAll(pond, code);
        return pond.read();
    }

    static void typeAll(BeaverPond pond, String letters) {
        for (char letter : letters.toCharArray()) {
            pond.type(letter);
        }
    }

    static String codeOf(BeaverPond pond, int machine) {
        StringBuilder code = new StringBuilder();
        while (!"throws IndexOutOfBoundsException".equals(answerOf(() -> pond.code(machine, code.length())))) {
            code.append(pond.code(machine, code.length()));
        }
        return code.toString();
    }

    static String certificateOf(BeaverPond pond, int machine) {
        int[] numbers = new int[10];
        int count = 0;
        while (count < 10) {
            int index = count;
            Object number = answerOf(() -> pond.certificate(machine, index));
            if (!(number instanceof Integer)) {
                break;
            }
            numbers[count++] = (Integer) number;
        }
        return Arrays.toString(Arrays.copyOf(numbers, count));
    }

    static void end(String test) {
        System.out.println(test + ": " + asked + " answers, " + wrong + " of them not as due");
        if (wrong != 0 || asked == 0) {
            System.exit(1);
        }
    }
}
