/** Long runs of calls, the same ones on BeaverPond and on NaivePond: each answer must be the same. */
public final class ModelTest {
    private static final int CALLS = 512;
    private static final char[] WAYS = {'c', 't', 'b', 'n'};
    private static final int[] GREATEST = {300, 300, 30, 4};
    private static final int[] ODD = {Integer.MIN_VALUE, -2001, -2, -1, 0, 1, 2, 3, 4, 5, 200, 201, 2000, 2001, Integer.MAX_VALUE};

    private final BeaverPond pond = new BeaverPond();
    private final NaivePond naive = new NaivePond();
    private final String name;
    private long seed;
    private int calls = 1;
    private int machines;

    private ModelTest(String name, long seed) {
        this.name = name;
        this.seed = seed;
    }

    public static void main(String[] args) {
        java.util.Map<String, Integer> met = new java.util.TreeMap<>();
        for (int number = 0; number < 1500; number++) {
            ModelTest test = new ModelTest("run " + number, number);
            if (number % 3 == 0) {
                test.mixedRun();
            } else if (number % 3 == 1) {
                test.listedRun();
            } else {
                test.provedRun();
            }
            test.naive.met.forEach((limit, count) -> met.merge(limit, count, Integer::sum));
        }
        System.out.println("met: " + met);
        for (String limit : new String[] {"a row has more than 100", "a row has the beginning", "the last row is not empty",
            "more than 300 pictures", "200 to 300 pictures", "c proves", "t proves", "b proves", "n proves"}) {
            Due.same(true, "met '" + limit + "'", met.containsKey(limit));
        }
        Due.end("ModelTest");
    }

    private int below(int bound) {
        seed = seed * 6364136223846793005L + 1442695040888963407L;
        return (int) ((seed >>> 33) % bound);
    }

    private int odd() {
        return ODD[below(ODD.length)];
    }

    private int oneOf(int from, int to) {
        return below(25) == 0 ? odd() : from + below(to - from + 1);
    }

    private int anyMachine() {
        return below(40) == 0 ? odd() : below(machines + 1) - (below(10) == 0 ? 1 : 0);
    }

    private Object both(String call, Due.Call one, Due.Call other) {
        calls++;
        Object due = Due.answerOf(other);
        Due.same(due, name + " (call " + calls + ") " + call, Due.answerOf(one));
        return due;
    }

    private void count(Object answer) {
        if (answer instanceof Integer && (Integer) answer >= machines) {
            machines = (Integer) answer + 1;
        }
    }

    private void mixedRun() {
        while (calls < CALLS - 40) {
            anyCall();
        }
    }

    private void listedRun() {
        int states = 1 + below(4);
        int signs = 2 + below(2);
        int steps = below(3) == 0 ? 1 + below(200) : 1 + below(20);
        both("list", () -> pond.list(states, signs, steps), () -> naive.list(states, signs, steps));
        int nexts = below(250);
        for (int each = 0; each < nexts; each++) {
            makeNext();
            if (below(3) == 0) {
                sameCode(machines - 1);
            }
            if (below(3) == 0) {
                prove(machines - 1);
            }
            if (calls > CALLS - 60) {
                return;
            }
        }
        while (calls < CALLS - 40) {
            anyCall();
        }
    }

    private void provedRun() {
        while (calls < CALLS - 60) {
            typedMachine();
            for (int each = 0; each < 8; each++) {
                prove(machines - 1);
            }
            run(machines - 1, below(2001));
            anyCall();
        }
    }

    private void anyCall() {
        switch (below(9)) {
            case 0:
                makeMachine();
                break;
            case 1:
                change();
                break;
            case 2:
                typeSome();
                break;
            case 3:
                run(anyMachine(), below(2) == 0 ? oneOf(0, 20) : oneOf(0, 2000));
                break;
            case 4:
                lookAtRun();
                break;
            case 5:
                prove(anyMachine());
                break;
            case 6:
                lookAtProof(anyMachine());
                break;
            case 7:
                listing();
                break;
            default:
                figures();
                break;
        }
    }

    private void makeMachine() {
        int states = oneOf(1, 4);
        int signs = oneOf(2, 3);
        count(both("machine(" + states + ", " + signs + ")", () -> pond.machine(states, signs), () -> naive.machine(states, signs)));
    }

    private void change() {
        for (int each = 0; each < 4; each++) {
            int machine = anyMachine();
            int state = oneOf(0, 3);
            int sign = oneOf(0, 2);
            int write = oneOf(0, 2);
            int next = oneOf(-1, 3);
            boolean toRight = below(2) == 0;
            if (below(5) == 0) {
                both("unset(" + machine + ", " + state + ", " + sign + ")",
                    () -> pond.unset(machine, state, sign), () -> naive.unset(machine, state, sign));
            } else {
                both("move(" + machine + ", " + state + ", " + sign + ", " + write + ", " + toRight + ", " + next + ")",
                    () -> pond.move(machine, state, sign, write, toRight, next),
                    () -> naive.move(machine, state, sign, write, toRight, next));
            }
        }
    }

    private void type(char letter) {
        both("type(" + letter + ")", () -> pond.type(letter), () -> naive.type(letter));
    }

    private void typeSome() {
        if (below(3) > 0) {
            typedMachine();
            return;
        }
        int letters = below(70);
        if (below(4) == 0) {
            both("wipe()", pond::wipe, naive::wipe);
        }
        for (int each = 0; each < letters && below(20) > 0 && calls < CALLS - 10; each++) {
            type(below(30) == 0 ? (char) below(300) : "012LRABCDH-_".charAt(below(12)));
        }
        both("read()", pond::read, naive::read);
    }

    /** Types the code of some machine, at times with a fault in it. */
    private void typedMachine() {
        both("wipe()", pond::wipe, naive::wipe);
        int states = 1 + below(4);
        int signs = 2 + below(2);
        int gaps = below(4) == 0 ? 4 : 13;
        StringBuilder code = new StringBuilder();
        for (int state = 0; state < states; state++) {
            code.append(state == 0 ? "" : "_");
            for (int sign = 0; sign < signs; sign++) {
                if (below(gaps) == 0) {
                    code.append(below(2) == 0 ? "---" : "1RH");
                } else {
                    code.append(below(signs)).append("LR".charAt(below(2))).append("ABCD".charAt(below(states)));
                }
            }
        }
        if (below(10) == 0) {
            code.setCharAt(below(code.length()), "012LRABCDH-_".charAt(below(12)));
        }
        if (below(20) == 0) {
            code.deleteCharAt(below(code.length()));
        }
        for (int index = 0; index < code.length(); index++) {
            type(code.charAt(index));
        }
        count(both("read() of " + code, pond::read, naive::read));
        both("wipe()", pond::wipe, naive::wipe);
    }

    private void sameCode(int machine) {
        int index = oneOf(0, 39);
        both("code(" + machine + ", " + index + ")", () -> pond.code(machine, index), () -> naive.code(machine, index));
    }

    private void run(int machine, int steps) {
        both("run(" + machine + ", " + steps + ")", () -> pond.run(machine, steps), () -> naive.run(machine, steps));
        lookAtRun();
    }

    private void lookAtRun() {
        int place = below(4) == 0 ? odd() : below(41) - 20;
        both("outcome()", pond::outcome, naive::outcome);
        both("marks()", pond::marks, naive::marks);
        both("space()", pond::space, naive::space);
        both("rows()", pond::rows, naive::rows);
        both("sign(" + place + ")", () -> pond.sign(place), () -> naive.sign(place));
        both("head()", pond::head, naive::head);
    }

    private void prove(int machine) {
        int index = below(4);
        char way = below(40) == 0 ? (char) below(300) : WAYS[index];
        int bound = below(2) == 0 ? GREATEST[index] : oneOf(1, GREATEST[index] + (below(20) == 0 ? 1 : 0));
        both("prove(" + machine + ", " + way + ", " + bound + ")",
            () -> pond.prove(machine, way, bound), () -> naive.prove(machine, way, bound));
        both("known(" + machine + ")", () -> pond.known(machine), () -> naive.known(machine));
        if (below(2) == 0) {
            lookAtProof(machine);
        }
    }

    private void lookAtProof(int machine) {
        int index = oneOf(0, 2);
        int other = anyMachine();
        both("known(" + machine + ")", () -> pond.known(machine), () -> naive.known(machine));
        both("certificate(" + machine + ", " + index + ")",
            () -> pond.certificate(machine, index), () -> naive.certificate(machine, index));
        both("check(" + machine + ")", () -> pond.check(machine), () -> naive.check(machine));
        both("areAlike(" + machine + ", " + other + ")",
            () -> pond.areAlike(machine, other), () -> naive.areAlike(machine, other));
        sameCode(machine);
    }

    private void makeNext() {
        count(both("next()", pond::next, naive::next));
    }

    private void listing() {
        int states = oneOf(1, 4);
        int signs = oneOf(2, 3);
        int steps = oneOf(1, 200);
        if (below(3) == 0) {
            both("list(" + states + ", " + signs + ", " + steps + ")",
                () -> pond.list(states, signs, steps), () -> naive.list(states, signs, steps));
        }
        for (int each = below(6); each > 0; each--) {
            makeNext();
        }
    }

    private void figures() {
        int states = oneOf(1, 4);
        int signs = oneOf(2, 3);
        both("record(" + states + ", " + signs + ")", () -> pond.record(states, signs), () -> naive.record(states, signs));
        both("undecided(" + states + ", " + signs + ")",
            () -> pond.undecided(states, signs), () -> naive.undecided(states, signs));
        both("knownShare()", pond::knownShare, naive::knownShare);
        both("meanSteps()", pond::meanSteps, naive::meanSteps);
        both("isSound()", pond::isSound, naive::isSound);
    }
}
