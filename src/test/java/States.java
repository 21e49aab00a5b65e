import java.util.function.Consumer;

/** Machines in many states, with all settings off the first ones. */
final class States {
    private States() {
    }

    /** Without bars and strokes, with all settings off the first ones. */
    static TypebarWorks withoutBars() {
        TypebarWorks x = new TypebarWorks();
        set(x);
        setLater(x);
        return x;
    }

    /** With bars and settings, but without strokes. */
    static TypebarWorks withoutStrokes() {
        TypebarWorks x = Machines.withBars();
        set(x);
        setBars(x);
        setLater(x);
        return x;
    }

    /** What is set between strokes where there are any. */
    private static void setLater(TypebarWorks x) {
        x.carriage(40, 7);
        x.colour('r');
        x.shift(true);
        x.level(2);
    }

    private static void set(TypebarWorks x) {
        x.stop(30, true);
        x.stop(60, true);
        x.margins(0, 2, 1);
        x.half();
        Check.same("rings", x.rings(), 1);
        x.margins(3, 150, 7);
        x.lines(3);
        x.home();
        x.ribbon(3);
        x.roll(2);
        x.space();
        x.release();
    }

    private static void setBars(TypebarWorks x) {
        x.align(0, 1, -2, 3);
        x.align(20, -1, 2, -3);
        x.speed(0, 5, 6);
        x.speed(5, 3, 9);
        x.speed(20, 3, 9);
    }

    /** With settings, marks, two samples, a carriage under way and bars that are not home. */
    static TypebarWorks busy() {
        return busyWith(x -> { });
    }

    /** As busy, with some calls ahead of most of what makes it so. */
    static TypebarWorks busyWith(Consumer<TypebarWorks> early) {
        TypebarWorks x = Machines.withBars();
        early.accept(x);
        set(x);
        setBars(x);
        x.align(20, 2, 2, 0);
        x.strike(20, 50);
        x.sample();
        x.align(20, -1, 2, -3);
        for (int print = 0; print < 9; print++) {
            x.strike(20, 50);
        }
        x.colour('r');
        x.shift(true);
        x.level(2);
        x.strike(0, 50);
        x.strike(1, 50);
        Check.letter("not home", x.strike(1, 1), 'b');
        x.sample();
        x.strike(5, 50);
        x.strike(20, 3);
        x.carriage(40, 7);
        x.strike(23, 3);
        Check.letter("a print", x.strike(0, 3), 'p');
        Check.same("under way", x.rest(), 5 + 9);
        return x;
    }

    static TypebarWorks jammed() {
        TypebarWorks x = busy();
        Check.letter("a clash", x.strike(1, 0), 'c');
        return x;
    }

    static TypebarWorks locked() {
        TypebarWorks x = busy();
        x.page();
        x.margins(3, 9, 2);
        Machines.goUpTo(x, 9);
        x.strike(20, 50);
        return x;
    }

    /** Locked at 199, where a space is to no place, too. */
    static TypebarWorks lockedAtTheEnd() {
        TypebarWorks x = busy();
        x.page();
        x.margins(3, 199, 2);
        Machines.goUpTo(x, 199);
        x.strike(20, 50);
        return x;
    }

    /** Released at a half step, with a bar that is on its way. */
    static TypebarWorks releasedAt(int column) {
        TypebarWorks x = busy();
        Machines.goUpTo(x, column);
        x.strike(20, 50);
        return x;
    }

    /** Under way to a half step, released there. */
    static TypebarWorks movingTo(int column) {
        TypebarWorks x = busy();
        x.carriage(99, 1);
        Machines.goUpTo(x, column - 2);
        Check.letter("a print to " + column, x.strike(0, 50), 'p');
        return x;
    }

    /** Under way to a half step, which is locked. */
    static TypebarWorks lockedUnderWay(int column, int right) {
        TypebarWorks x = busy();
        x.margins(3, right, 2);
        x.page();
        x.carriage(99, 1);
        Machines.goUpTo(x, column - 2);
        Check.letter("a print to " + column, x.strike(0, 50), 'p');
        return x;
    }

    static TypebarWorks rolledUp(int thirds) {
        TypebarWorks x = busy();
        for (int round = 0; round < 6; round++) {
            x.roll(30);
        }
        x.roll(thirds);
        return x;
    }

    static TypebarWorks withPage() {
        TypebarWorks x = busy();
        x.page();
        x.strike(0, 50);
        return x;
    }

    static TypebarWorks withFourSamples() {
        TypebarWorks x = busy();
        x.sample();
        x.sample();
        return x;
    }

    static TypebarWorks withEmptyPage() {
        TypebarWorks x = busy();
        x.page();
        return x;
    }

    /** At rest, freed, with the bars home. */
    static TypebarWorks still() {
        TypebarWorks x = busy();
        x.free();
        x.half();
        return x;
    }

    /** Not released, without the shift. */
    static TypebarWorks unshifted() {
        TypebarWorks x = busy();
        x.page();
        x.shift(false);
        x.half();
        x.align(20, -1, 1, -3);
        x.strike(20, 50);
        x.strike(0, 20);
        x.strike(5, 20);
        return x;
    }

    /** As busy, at rest, with the settings made anew in another order, and a bell that rings last. */
    static TypebarWorks backward() {
        TypebarWorks x = busy();
        x.carriage(40, 7);
        x.level(2);
        x.shift(true);
        x.colour('r');
        x.speed(0, 5, 6);
        x.align(0, 1, -2, 3);
        x.release();
        x.roll(2);
        x.lines(3);
        x.margins(3, 150, 7);
        Machines.goUpTo(x, 142);
        x.half();
        return x;
    }
}
