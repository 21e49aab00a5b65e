import java.util.NoSuchElementException;

/** Promises 30 to 32: strokes, clashes, skips, and the tick. */
public final class StrokesTest {
    private static final Class<IndexOutOfBoundsException> INDEX = IndexOutOfBoundsException.class;
    private static final Class<IllegalArgumentException> ARGUMENT = IllegalArgumentException.class;
    private static final Class<UnsupportedOperationException> UNSUPPORTED = UnsupportedOperationException.class;
    private static final Class<NoSuchElementException> NONE = NoSuchElementException.class;

    public static void main(String[] args) {
        examples();
        wrongCalls();
        above();
        jam();
        lock();
        notHome();
        homeByThatSpeed();
        clash();
        clashOfNeighbours();
        clashBehindFree();
        clashWithSkip();
        skip();
        skipOfDead();
        restEdge();
        restBehindAnEarlierPrint();
        newBarIsHome();
        prints();
        wornSide();
        free();
        now();
        Check.end();
    }

    private static TypebarWorks withBars() {
        TypebarWorks x = new TypebarWorks();
        x.bar(0, 'a', 'A');
        x.bar(1, 'b', 'B');
        x.bar(5, 'c', 'C');
        x.dead(20, '^', '~');
        x.dead(23, '"', '`');
        x.carriage(0, 50);
        return x;
    }

    private static void examples() {
        TypebarWorks x = new TypebarWorks();
        Check.same("30: bar", x.bar(0, 'a', 'A'), false);
        Check.letter("30: print", x.strike(0, 5), 'p');
        Check.same("30: column", x.column(), 2);
        Check.same("30: rest", x.rest(), 7);
        Check.same("30: sign", x.mark(0, 's'), 97);
        TypebarWorks y = new TypebarWorks();
        y.bar(0, 'a', 'A');
        y.bar(1, 'b', 'B');
        Check.letter("30: print", y.strike(0, 5), 'p');
        Check.letter("30: clash", y.strike(1, 1), 'c');
        Check.same("31: jammed", y.free(), true);
    }

    private static void wrongCalls() {
        TypebarWorks x = withBars();
        Check.fails("30: place -1", INDEX, () -> x.strike(-1, 5));
        Check.fails("30: place 24", INDEX, () -> x.strike(24, 100));
        Check.fails("30: wait -1", ARGUMENT, () -> x.strike(0, -1));
        Check.fails("30: wait 100", ARGUMENT, () -> x.strike(9, 100));
        Check.fails("30: no bar", NONE, () -> x.strike(9, 99));
        Check.same("32: refused ones let no tick go by", x.now(), 0);
        Check.fails("41: nor count", ArithmeticException.class, x::printShare);
        Check.letter("30: wait 99", x.strike(0, 99), 'p');
        Check.letter("30: wait 0", x.strike(0, 0), 'b');
    }

    private static void above() {
        TypebarWorks x = withBars();
        x.margins(0, 199, 0);
        x.stop(198, true);
        x.stop(197, true);
        x.tab();
        Check.letter("30: to 199", x.strike(0, 5), 'p');
        Check.same("30: at 199", x.column(), 199);
        Check.letter("30: locked there", x.strike(5, 20), 'm');
        x.release();
        Check.fails("30: above 199", UNSUPPORTED, () -> x.strike(5, 20));
        Check.same("30: nothing changed, now", x.now(), 25);
        Check.same("30: nothing changed, marks", x.marks(), 1);
        Check.same("30: nothing changed, wear", x.wear(5), 0);
        Check.same("30: nothing changed, cell", x.cell(), 1);
        Check.same("30: nothing changed, column", x.column(), 199);
        Check.letter("30: dead ones stay", x.strike(20, 20), 'p');
        Check.letter("30: a dead one not home", x.strike(20, 1), 'b');
        Check.letter("30: a clash goes nowhere", x.strike(5, 0), 'c');
        Check.letter("30: nor does a jammed one", x.strike(5, 20), 'j');
        x.free();
        x.back();
        x.half();
        Check.same("30: at 198", x.column(), 198);
        Check.fails("30: above 199 from 198", UNSUPPORTED, () -> x.strike(5, 20));
        x.back();
        Check.letter("30: from 196", x.strike(5, 20), 'p');
        x.carriage(99, 1);
        x.back();
        x.strike(5, 20);
        Check.fails("30: above 199 by a skip", UNSUPPORTED, () -> x.strike(0, 20));
    }

    private static void jam() {
        TypebarWorks x = withBars();
        x.strike(0, 5);
        Check.letter("30: clash", x.strike(5, 2), 'c');
        Check.same("30: a clash prints nothing", x.marks(), 1);
        Check.same("30: nor moves", x.column(), 2);
        Check.same("30: nor wears", x.wear(5), 0);
        Check.letter("30: jammed", x.strike(1, 99), 'j');
        Check.letter("30: jammed, dead", x.strike(20, 99), 'j');
        x.page();
        x.home();
        x.bar(1, 'b', 'B');
        Check.letter("30: jammed still", x.strike(1, 99), 'j');
        x.margins(0, 1, 0);
        x.space();
        Check.letter("30: jammed ahead of locked", x.strike(1, 99), 'j');
        Check.same("32: ticks go by", x.now(), 5 + 2 + 4 * 99);
        x.free();
        Check.letter("30: freed", x.strike(1, 0), 'm');
        x.release();
        Check.letter("30: freed and released", x.strike(1, 0), 'p');
    }

    private static void lock() {
        TypebarWorks x = withBars();
        x.margins(0, 4, 0);
        x.strike(0, 20);
        x.half();
        Check.letter("30: one below the margin", x.strike(0, 20), 'p');
        Check.same("30: beyond it", x.column(), 5);
        Check.letter("30: locked", x.strike(0, 1), 'm');
        Check.letter("30: dead ones are not", x.strike(20, 20), 'p');
        Check.same("30: it stays", x.column(), 5);
        x.back();
        Check.letter("30: elsewhere", x.strike(5, 20), 'p');
        x.back();
        x.half();
        Check.letter("30: at the margin", x.strike(5, 20), 'm');
        Check.same("30: no wear by it", x.wear(5), 1);
        Check.same("30: no mark by it", x.marks(), 4);
        x.home();
        Check.letter("30: behind a return", x.strike(5, 0), 'p');
    }

    private static void notHome() {
        TypebarWorks x = withBars();
        x.strike(0, 5);
        Check.letter("30: not home at 7", x.strike(0, 7), 'b');
        Check.letter("30: home at 8", x.strike(0, 1), 'p');
        Check.letter("30: not home again", x.strike(0, 4), 'b');
        Check.letter("30: that does not count", x.strike(0, 4), 'p');
        Check.letter("30: another one is home", x.strike(5, 3), 'p');
        TypebarWorks y = withBars();
        y.strike(20, 0);
        Check.letter("30: dead, not home", y.strike(20, 7), 'b');
        Check.letter("30: dead, home", y.strike(20, 1), 'p');
        TypebarWorks z = withBars();
        z.margins(0, 1, 0);
        z.space();
        z.strike(0, 5);
        z.release();
        Check.letter("30: locked ones do not rise", z.strike(0, 1), 'p');
    }

    private static void homeByThatSpeed() {
        TypebarWorks x = withBars();
        x.speed(0, 9, 9);
        x.strike(0, 0);
        x.speed(0, 2, 2);
        Check.letter("30: rose and fell then", x.strike(0, 17), 'b');
        Check.letter("30: home then", x.strike(0, 1), 'p');
        x.speed(0, 9, 9);
        Check.letter("30: home sooner", x.strike(0, 4), 'p');
        x.solder(0);
        Check.letter("30: soldered, not home", x.strike(0, 17), 'b');
    }

    private static void clash() {
        TypebarWorks x = withBars();
        x.strike(0, 10);
        Check.letter("30: 3 behind", x.strike(5, 3), 'p');
        TypebarWorks y = withBars();
        y.strike(0, 10);
        Check.letter("30: 2 behind", y.strike(5, 2), 'c');
        TypebarWorks z = withBars();
        z.strike(0, 10);
        Check.letter("30: 0 behind", z.strike(5, 0), 'c');
        TypebarWorks w = withBars();
        w.speed(0, 9, 4);
        w.strike(0, 10);
        w.speed(5, 2, 4);
        Check.letter("30: ahead", w.strike(5, 3), 'c');
        TypebarWorks v = withBars();
        v.speed(0, 9, 4);
        v.strike(0, 10);
        v.speed(5, 2, 4);
        Check.letter("30: 3 behind by slower ones", v.strike(5, 10), 'p');
    }

    private static void clashOfNeighbours() {
        TypebarWorks x = withBars();
        x.strike(0, 10);
        Check.letter("30: neighbour 4 behind", x.strike(1, 4), 'c');
        TypebarWorks y = withBars();
        y.strike(1, 10);
        Check.letter("30: lower neighbour 4 behind", y.strike(0, 4), 'c');
        TypebarWorks z = withBars();
        z.strike(1, 10);
        Check.letter("30: neighbour 5 behind", z.strike(0, 5), 'p');
        TypebarWorks w = withBars();
        w.bar(2, 'd', 'D');
        w.strike(0, 10);
        Check.letter("30: two places off", w.strike(2, 3), 'p');
        TypebarWorks v = withBars();
        v.bar(19, 'd', 'D');
        v.strike(20, 10);
        Check.letter("30: neighbour of a dead one", v.strike(19, 4), 'c');
    }

    private static void clashBehindFree() {
        TypebarWorks x = withBars();
        x.strike(0, 10);
        Check.same("31: not jammed", x.free(), false);
        Check.letter("30: none behind free, but the carriage moves", x.strike(1, 0), 's');
        Check.letter("30: with that skip", x.strike(0, 4), 'c');
        Check.letter("30: the last one alone", jumpedBack().strike(0, 0), 'p');
    }

    private static TypebarWorks jumpedBack() {
        TypebarWorks x = withBars();
        x.strike(20, 10);
        x.free();
        x.page();
        return x;
    }

    private static void clashWithSkip() {
        TypebarWorks x = withBars();
        x.carriage(99, 1);
        x.strike(0, 10);
        Check.letter("30: skip", x.strike(5, 10), 's');
        Check.letter("30: clash with the skip", x.strike(1, 2), 'c');
        TypebarWorks y = withBars();
        y.strike(0, 10);
        y.strike(0, 2);
        Check.letter("30: not with one not home", y.strike(5, 3), 'p');
        TypebarWorks z = withBars();
        z.strike(0, 10);
        z.bar(0, 'z', 'Z');
        Check.letter("30: with the stroke, not the bar", z.strike(0, 2), 'c');
        TypebarWorks w = withBars();
        w.strike(0, 10);
        w.bar(0, 'z', 'Z');
        Check.letter("30: a place is not next to itself", w.strike(0, 3), 'p');
    }

    private static void skip() {
        TypebarWorks x = withBars();
        x.carriage(99, 10);
        x.strike(0, 10);
        Check.same("30: moves for 12", x.rest(), 16);
        Check.letter("30: skip", x.strike(5, 11), 's');
        Check.same("30: nothing prints", x.marks(), 1);
        Check.same("30: nor wears", x.wear(5), 0);
        Check.same("30: nor takes ink", x.cell(), 1);
        Check.same("30: but goes a step", x.column(), 4);
        Check.same("30: and is at rest behind it", x.rest(), 16);
        Check.letter("30: rose and fell", x.strike(5, 7), 'b');
    }

    private static void skipOfDead() {
        TypebarWorks x = withBars();
        x.carriage(99, 10);
        x.strike(0, 10);
        Check.letter("30: skip of a dead one", x.strike(20, 11), 's');
        Check.same("30: goes nowhere", x.column(), 2);
        Check.same("30: at rest as ever", x.rest(), 5);
        Check.same("30: no mark", x.marks(), 1);
        Check.letter("30: clash with it", x.strike(23, 2), 'c');
    }

    private static void restEdge() {
        TypebarWorks x = withBars();
        x.carriage(99, 10);
        x.strike(0, 10);
        Check.letter("30: at rest in that tick", x.strike(5, 12), 'p');
        TypebarWorks y = withBars();
        y.carriage(99, 10);
        y.strike(0, 10);
        Check.letter("30: not in the one ahead", y.strike(20, 11), 's');
    }

    private static void restBehindAnEarlierPrint() {
        TypebarWorks x = withBars();
        x.speed(0, 9, 4);
        x.speed(5, 2, 4);
        x.strike(0, 10);
        Check.same("30: slow", x.rest(), 10);
        x.free();
        Check.letter("30: ahead of that print", x.strike(5, 1), 's');
        Check.same("30: behind the later stroke", x.rest(), 3);
    }

    private static void newBarIsHome() {
        TypebarWorks x = withBars();
        x.strike(0, 10);
        x.bar(0, 'a', 'A');
        Check.letter("30: a new bar is home", x.strike(0, 3), 'p');
    }

    private static void prints() {
        TypebarWorks x = withBars();
        x.roll(5);
        x.space();
        x.half();
        x.align(5, -2, 3, 1);
        x.strike(5, 9);
        Check.same("30: sixth", x.mark(0, 'r'), 10);
        Check.same("30: half step", x.mark(0, 'c'), 3);
        Check.same("30: sign", x.mark(0, 's'), 'c');
        Check.same("30: up", x.mark(0, 'u'), -2);
        Check.same("30: side", x.mark(0, 'x'), 3);
        Check.same("30: twist", x.mark(0, 't'), 1);
        Check.same("30: strength", x.mark(0, 'i'), 9);
        Check.same("30: colour", x.mark(0, 'k'), 'k');
        Check.same("30: a step", x.column(), 5);
    }

    private static void wornSide() {
        TypebarWorks x = withBars();
        x.align(20, 0, -3, 0);
        for (int index = 0; index < 45; index++) {
            x.strike(20, 20);
            Check.same("30: side behind " + index, x.mark(index, 'x'), -3 + Math.min(3, index / 10));
        }
        Check.same("30: wear", x.wear(20), 45);
        x.solder(20);
        x.strike(20, 20);
        Check.same("30: side of a soldered one", x.mark(45, 'x'), 0);
        Check.same("44: true", x.isTrue(), true);
    }

    private static void free() {
        TypebarWorks x = withBars();
        Check.same("31: at first", x.free(), false);
        x.strike(0, 10);
        x.home();
        Check.same("31: not jammed", x.free(), false);
        Check.letter("31: home", x.strike(0, 0), 'p');
        x.strike(5, 0);
        Check.same("31: jammed", x.free(), true);
        Check.same("31: freed", x.free(), false);
        x.home();
        Check.letter("31: home again", x.strike(5, 0), 'p');
        Check.same("31: no tick", x.now(), 10);
        TypebarWorks y = withBars();
        y.strike(0, 0);
        y.free();
        y.home();
        Check.letter("31: home at the tick 0", y.strike(0, 0), 'p');
    }

    private static void now() {
        TypebarWorks x = withBars();
        x.strike(0, 99);
        Check.same("32: first", x.now(), 99);
        x.strike(0, 1);
        Check.same("32: not home", x.now(), 100);
        x.strike(5, 0);
        Check.same("32: clash", x.now(), 100);
        x.strike(5, 7);
        Check.same("32: jammed", x.now(), 107);
        x.space();
        x.free();
        x.page();
        Check.same("32: by strokes alone", x.now(), 107);
    }
}
