/** Promises 25 to 27: knownShare, meanSteps, isSound. */
public final class FiguresTest {
    public static void main(String[] args) {
        knownShare();
        meanSteps();
        isSound();
        Due.end("FiguresTest");
    }

    private static void knownShare() {
        BeaverPond x = new BeaverPond();
        Due.noFigure("knownShare() of none", x::knownShare);
        int travels = Due.machineOf(x, "1RA---");
        Due.is(0.0f, "knownShare() of nothing known", x::knownShare);
        int stops = Due.machineOf(x, "1RH---");
        x.machine(4, 3);
        x.prove(travels, 't', 1);
        Due.is(1.0f / 3.0f, "knownShare()", x::knownShare);
        x.run(stops, 1);
        Due.is(2.0f / 3.0f, "knownShare()", x::knownShare);
        x.unset(travels, 0, 0);
        Due.is(1.0f / 3.0f, "knownShare() behind unset()", x::knownShare);
        BeaverPond y = new BeaverPond();
        y.run(Due.machineOf(y, "1RH---"), 1);
        Due.is(1.0f, "knownShare() of all", y::knownShare);
    }

    private static void meanSteps() {
        BeaverPond x = new BeaverPond();
        Due.noFigure("meanSteps() of no machine", x::meanSteps);
        int travels = Due.machineOf(x, "1RA---");
        x.prove(travels, 't', 1);
        Due.noFigure("meanSteps() of none that stops", x::meanSteps);
        x.run(Due.machineOf(x, "1RB1LB_1LA1RH"), 9);
        Due.is(6.0, "meanSteps() of one", x::meanSteps);
        x.run(Due.machineOf(x, "1RB2LB1RH_2LA2RB1LB"), 99);
        Due.is(22.0, "meanSteps() of two", x::meanSteps);
        x.run(Due.machineOf(x, "1RH---"), 1);
        Due.is(15.0, "meanSteps() of three", x::meanSteps);
        x.run(Due.machineOf(x, "1RH---_------"), 1);
        Due.is(11.5, "meanSteps() of four", x::meanSteps);
        x.run(Due.machineOf(x, "1RB---_1RH---"), 2);
        x.run(Due.machineOf(x, "1RB---_0RH---"), 2);
        Due.is(50.0 / 6.0, "meanSteps() of six", x::meanSteps);
    }

    private static void isSound() {
        BeaverPond x = new BeaverPond();
        Due.is(true, "isSound() of none", x::isSound);
        int machine = Due.machineOf(x, "1RB1LB_1LA1RH");
        int circle = Due.machineOf(x, "0RB1LA_0LA---");
        Due.is(true, "isSound() of nothing known", x::isSound);
        x.run(machine, 9);
        x.prove(circle, 'c', 300);
        x.prove(Due.machineOf(x, "1RA---"), 't', 300);
        x.prove(Due.machineOf(x, "0RB---_0LA---"), 'b', 30);
        x.prove(Due.machineOf(x, "1LA---"), 'n', 4);
        Due.is(true, "isSound()", x::isSound);
        Due.is(1.0f, "knownShare()", x::knownShare);
        x.unset(circle, 1, 0);
        x.unset(machine, 0, 0);
        Due.is(true, "isSound() behind changes", x::isSound);
        Due.is('s', "outcome() behind isSound()", x::outcome);
    }
}
