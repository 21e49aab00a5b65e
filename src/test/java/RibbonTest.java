/** Promises 24 to 29: the ribbon, its colours and ink, and the shift. */
public final class RibbonTest {
    private static final Class<IndexOutOfBoundsException> INDEX = IndexOutOfBoundsException.class;
    private static final Class<IllegalArgumentException> ARGUMENT = IllegalArgumentException.class;

    public static void main(String[] args) {
        ribbon();
        newRibbon();
        colour();
        ink();
        inkEnds();
        cell();
        shift();
        level();
        Check.end();
    }

    private static TypebarWorks withBar() {
        TypebarWorks x = new TypebarWorks();
        x.bar(0, 'a', 'A');
        x.margins(0, 199, 0);
        return x;
    }

    private static void ribbon() {
        TypebarWorks x = withBar();
        Check.same("24: at first", x.ribbon(99), 40);
        Check.same("24: the last cell", x.ink(98, 'k'), 9);
        Check.same("24: before", x.ribbon(2), 99);
        Check.fails("24: 1", ARGUMENT, () -> x.ribbon(1));
        Check.fails("24: 100", ARGUMENT, () -> x.ribbon(100));
        Check.same("24: stays", x.ribbon(3), 2);
    }

    private static void newRibbon() {
        TypebarWorks x = withBar();
        x.ribbon(2);
        x.strike(0, 50);
        x.strike(0, 50);
        Check.same("24: at its end", x.cell(), 1);
        x.ribbon(3);
        Check.same("24: at 0", x.cell(), 0);
        Check.same("24: full", x.ink(0, 'k'), 9);
        Check.same("24: full too", x.ink(1, 'k'), 9);
        x.strike(0, 50);
        Check.same("24: goes up", x.cell(), 1);
        Check.same("24: true", x.isTrue(), true);
        x.colour('r');
        x.ribbon(3);
        Check.letter("24: the colour stays", x.colour('k'), 'r');
    }

    private static void colour() {
        TypebarWorks x = withBar();
        Check.letter("25: at first", x.colour('r'), 'k');
        x.strike(0, 50);
        Check.same("25: red", x.mark(0, 'k'), 'r');
        Check.same("25: red is gone", x.ink(0, 'r'), 8);
        Check.same("25: black is not", x.ink(0, 'k'), 9);
        Check.letter("25: before", x.colour('-'), 'r');
        x.strike(0, 50);
        Check.same("25: none", x.mark(1, 'k'), '-');
        Check.same("25: its strength", x.mark(1, 'i'), 0);
        Check.same("25: the ribbon stays", x.cell(), 1);
        Check.same("25: no red is gone", x.ink(1, 'r'), 9);
        Check.same("25: no black is gone", x.ink(1, 'k'), 9);
        Check.fails("25: 'x'", ARGUMENT, () -> x.colour('x'));
        Check.fails("25: 'K'", ARGUMENT, () -> x.colour('K'));
        Check.fails("25: no letter", ARGUMENT, () -> x.colour((char) 0));
        Check.letter("25: stays", x.colour('k'), '-');
    }

    private static void ink() {
        TypebarWorks x = withBar();
        Check.same("26: at first", x.ink(39, 'r'), 9);
        x.strike(0, 50);
        Check.same("26: taken", x.ink(0, 'k'), 8);
        Check.same("26: strength", x.mark(0, 'i'), 9);
        Check.fails("26: cell -1", INDEX, () -> x.ink(-1, 'k'));
        Check.fails("26: cell 40", INDEX, () -> x.ink(40, 'x'));
        Check.fails("26: '-'", ARGUMENT, () -> x.ink(0, '-'));
        Check.fails("26: 'x'", ARGUMENT, () -> x.ink(39, 'x'));
        x.ribbon(2);
        Check.fails("26: cell 2 of 2", INDEX, () -> x.ink(2, 'k'));
    }

    private static void inkEnds() {
        TypebarWorks x = withBar();
        x.ribbon(2);
        int[] left = {9, 9};
        int at = 0;
        boolean up = true;
        for (int index = 0; index < 40; index++) {
            Check.letter("26: prints without ink too", x.strike(0, 50), 'p');
            Check.same("26: strength of " + index, x.mark(index, 'i'), left[at]);
            left[at] = Math.max(0, left[at] - 1);
            if (up == (at == 1)) {
                up = !up;
            } else {
                at = 1 - at;
            }
            Check.same("27: cell behind " + index, x.cell(), at);
            Check.same("26: ink of 0 behind " + index, x.ink(0, 'k'), left[0]);
            Check.same("26: ink of 1 behind " + index, x.ink(1, 'k'), left[1]);
            Check.same("44: true behind " + index, x.isTrue(), true);
        }
        Check.same("26: black ended", x.ink(0, 'k') + x.ink(1, 'k'), 0);
        x.colour('r');
        x.strike(0, 50);
        Check.same("26: red has not", x.mark(40, 'i'), 9);
    }

    private static void cell() {
        TypebarWorks x = withBar();
        x.ribbon(3);
        int[] due = {1, 2, 2, 1, 0, 0, 1, 2, 2, 1};
        for (int index = 0; index < due.length; index++) {
            x.strike(0, 50);
            Check.same("27: cell behind " + index, x.cell(), due[index]);
        }
        TypebarWorks y = withBar();
        for (int index = 0; index < 39; index++) {
            y.strike(0, 50);
        }
        Check.same("27: the last of 40", y.cell(), 39);
        y.strike(0, 50);
        Check.same("27: turns", y.cell(), 39);
        y.strike(0, 50);
        Check.same("27: goes down", y.cell(), 38);
    }

    private static void shift() {
        TypebarWorks x = withBar();
        Check.same("28: first", x.shift(true), false);
        Check.same("28: again", x.shift(true), true);
        x.strike(0, 50);
        Check.same("28: upper", x.mark(0, 's'), 'A');
        Check.same("28: off", x.shift(false), true);
        x.strike(0, 50);
        Check.same("28: lower", x.mark(1, 's'), 'a');
    }

    private static void level() {
        TypebarWorks x = withBar();
        x.align(0, 2, 0, 0);
        Check.same("29: at first", x.level(3), 0);
        x.strike(0, 50);
        Check.same("29: without the shift", x.mark(0, 'u'), 2);
        x.shift(true);
        x.strike(0, 50);
        Check.same("29: with the shift", x.mark(1, 'u'), 5);
        Check.same("29: before", x.level(-3), 3);
        x.strike(0, 50);
        Check.same("29: below", x.mark(2, 'u'), -1);
        Check.fails("29: 4", ARGUMENT, () -> x.level(4));
        Check.fails("29: -4", ARGUMENT, () -> x.level(-4));
        Check.same("29: stays", x.level(0), -3);
    }
}
