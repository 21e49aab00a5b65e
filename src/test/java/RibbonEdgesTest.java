/** The edges of the paragraph "Ribbon", and of the shift and its level: each test has the sentence it is for. */
public final class RibbonEdgesTest {
    private static final String INDEX = "IndexOutOfBoundsException";
    private static final String ARGUMENT = "IllegalArgumentException";

    public static void main(String[] args) {
        cells();
        cellsAtFirst();
        inkAtFirst();
        goesUpAtFirst();
        turnsAtItsEnds();
        inkEnds();
        inkByColours();
        noInkForOthers();
        noColourStays();
        colours();
        coloursOfInk();
        shift();
        levels();
        levelByTheShift();
        Check.end();
    }

    /** "It has 2 to 99 cells"; a cell is there from 0 to one below that. */
    private static void cells() {
        for (int cells = -2; cells <= 103; cells++) {
            cellsOf(cells);
        }
        for (int cells : Machines.FAR_OFF) {
            cellsOf(cells);
        }
    }

    private static void cellsOf(int cells) {
        boolean isThere = cells >= 2 && cells <= 99;
        int due = isThere ? cells : 7;
        TypebarWorks x = new TypebarWorks();
        x.ribbon(7);
        Machines.allows("ribbon of " + cells, x, isThere, ARGUMENT, y -> y.ribbon(cells));
        for (int cell = -1; cell <= 100; cell++) {
            int at = cell;
            boolean isCell = at >= 0 && at < due;
            Machines.allows("cell " + at + " of " + due, x, isCell, INDEX, y -> y.ink(at, 'k'));
            Machines.allows("red cell " + at + " of " + due, x, isCell, INDEX, y -> y.ink(at, 'r'));
        }
        for (int cell : Machines.FAR_OFF) {
            Machines.allows("cell " + cell + " of " + due, x, false, INDEX, y -> y.ink(cell, 'k'));
        }
        Check.same("cells before", x.ribbon(2), due);
    }

    /** "40 at first". */
    private static void cellsAtFirst() {
        TypebarWorks x = new TypebarWorks();
        Check.same("ink of the cell 39", x.ink(39, 'k'), 9);
        Machines.allows("no cell 40", x, false, INDEX, y -> y.ink(40, 'k'));
        Check.same("cells", x.ribbon(2), 40);
    }

    /** "each with ink of 9 in each of the colours". */
    private static void inkAtFirst() {
        int[] all = {2, 3, 40, 98, 99};
        for (int cells : all) {
            TypebarWorks x = Machines.withBars();
            x.ribbon(2);
            x.strike(20, 50);
            x.strike(20, 50);
            x.ribbon(cells);
            for (int cell = 0; cell < cells; cell++) {
                Check.same("black at " + cell + " of " + cells, x.ink(cell, 'k'), 9);
                Check.same("red at " + cell + " of " + cells, x.ink(cell, 'r'), 9);
            }
        }
    }

    /** "it is at the cell 0 at first and goes up", from wherever the one before was. */
    private static void goesUpAtFirst() {
        TypebarWorks x = Machines.withBars();
        Check.same("a new machine", x.cell(), 0);
        for (int prints = 0; prints <= 5; prints++) {
            x.ribbon(2);
            Check.same("a new ribbon behind " + prints, x.cell(), 0);
            for (int print = 0; print < prints; print++) {
                x.strike(20, 50);
            }
            x.ribbon(3);
            int[] due = {0, 1, 2, 2, 1, 0, 0, 1};
            for (int cell : due) {
                Check.same("cells behind " + prints, x.cell(), cell);
                x.strike(20, 50);
            }
        }
    }

    /** "then the ribbon goes on by a cell, or, at its end, turns round and stays": at both ends. */
    private static void turnsAtItsEnds() {
        int[] all = {2, 3, 4, 39, 40, 98, 99};
        for (int cells : all) {
            TypebarWorks x = Machines.withBars();
            x.ribbon(cells);
            for (int print = 0; print <= 2 * cells + 1; print++) {
                int round = print % (2 * cells);
                int due = round < cells ? round : 2 * cells - 1 - round;
                Check.same("cell of " + cells + " behind " + print, x.cell(), due);
                x.strike(20, 50);
            }
        }
    }

    /** "takes 1 of ink", "if there is one left, and has as its strength what was there": 9 to 1, then 0. */
    private static void inkEnds() {
        TypebarWorks x = Machines.withBars();
        x.ribbon(2);
        int[] left = {9, 9};
        for (int print = 0; print < 44; print++) {
            int at = x.cell();
            Check.letter("prints " + print, x.strike(20, 50), 'p');
            Check.same("strength of " + print, x.mark(print, 'i'), left[at]);
            left[at] = Math.max(0, left[at] - 1);
            Check.same("black at 0 behind " + print, x.ink(0, 'k'), left[0]);
            Check.same("black at 1 behind " + print, x.ink(1, 'k'), left[1]);
            Check.same("true behind " + print, x.isTrue(), true);
        }
        int[] due = {1, 1, 0, 0, 1};
        for (int cell : due) {
            x.strike(20, 50);
            Check.same("goes on without ink", x.cell(), cell);
        }
        x.ribbon(2);
        x.strike(20, 50);
        Check.same("the first of a new ribbon", x.mark(49, 'i'), 9);
    }

    /** "of ink of the colour", "from the cell": not of the other colour, not of another cell. */
    private static void inkByColours() {
        TypebarWorks x = Machines.withBars();
        x.colour('r');
        x.strike(20, 50);
        x.colour('k');
        x.strike(20, 50);
        x.strike(20, 50);
        int[] black = {9, 8, 8, 9};
        int[] red = {8, 9, 9, 9};
        for (int cell = 0; cell < 4; cell++) {
            Check.same("black at " + cell, x.ink(cell, 'k'), black[cell]);
            Check.same("red at " + cell, x.ink(cell, 'r'), red[cell]);
        }
    }

    /** Only "a print takes" ink: no skip, clash, jammed or locked stroke, nor one of a bar that is not home. */
    private static void noInkForOthers() {
        TypebarWorks x = Machines.withBars();
        x.carriage(99, 1);
        Check.letter("a print", x.strike(0, 50), 'p');
        Check.letter("not home", x.strike(0, 1), 'b');
        Check.letter("a skip", x.strike(5, 20), 's');
        Check.letter("a clash", x.strike(0, 0), 'c');
        Check.letter("jammed", x.strike(0, 50), 'j');
        x.margins(0, 1, 0);
        x.free();
        Check.letter("locked", x.strike(0, 50), 'm');
        Check.same("one cell on", x.cell(), 1);
        Check.same("ink of the cell 0", x.ink(0, 'k'), 8);
        Check.same("ink of the cell 1", x.ink(1, 'k'), 9);
    }

    /** "With the colour '-' nothing is taken, and the strength is 0; the ribbon stays": at its ends, too. */
    private static void noColourStays() {
        TypebarWorks x = Machines.withBars();
        x.ribbon(2);
        int[] due = {0, 1, 1, 0, 0};
        for (int index = 0; index < due.length; index++) {
            x.colour('-');
            x.strike(20, 50);
            x.strike(20, 50);
            Check.same("stays at " + index, x.cell(), due[index]);
            Check.same("strength at " + index, x.mark(3 * index + 1, 'i'), 0);
            Check.same("colour at " + index, x.mark(3 * index + 1, 'k'), '-');
            x.colour('k');
            x.strike(20, 50);
        }
        Check.same("black at 0", x.ink(0, 'k'), 6);
        Check.same("black at 1", x.ink(1, 'k'), 7);
        Check.same("true", x.isTrue(), true);
    }

    /** "colour: 'k', 'r' or '-'", and "'k' at first". */
    private static void colours() {
        for (int code = 0; code <= 260; code++) {
            colourOf((char) code);
        }
        colourOf((char) (256 + 'k'));
        colourOf((char) (256 + 'r'));
        colourOf((char) (256 + '-'));
        colourOf((char) 0xffff);
    }

    private static void colourOf(char colour) {
        boolean isThere = colour == 'k' || colour == 'r' || colour == '-';
        TypebarWorks x = Machines.withBars();
        Machines.allows("colour " + (int) colour, x, isThere, ARGUMENT, y -> y.colour(colour));
        x.strike(20, 50);
        Check.same("colour of the mark by " + (int) colour, x.mark(0, 'k'), isThere ? colour : 'k');
        Check.letter("colour behind " + (int) colour, x.colour('-'), isThere ? colour : 'k');
    }

    /** "colour: 'k' or 'r'" of the ink, whichever one is set. */
    private static void coloursOfInk() {
        TypebarWorks x = new TypebarWorks();
        x.colour('-');
        for (int code = 0; code <= 260; code++) {
            char colour = (char) code;
            boolean isThere = colour == 'k' || colour == 'r';
            Machines.allows("ink of the colour " + code, x, isThere, ARGUMENT, y -> y.ink(0, colour));
        }
        Machines.allows("ink of a colour far off", x, false, ARGUMENT, y -> y.ink(39, (char) (256 + 'k')));
    }

    /** "of the sign, lower or, with the shift, upper"; the shift is not set at first. */
    private static void shift() {
        TypebarWorks x = Machines.withBars();
        boolean[] sets = {false, true, true, false, true};
        boolean was = false;
        for (int index = 0; index < sets.length; index++) {
            Check.same("shift before " + index, x.shift(sets[index]), was);
            was = sets[index];
            x.strike(20, 50);
            Check.same("sign of " + index, x.mark(index, 's'), was ? '~' : '^');
        }
        x.page();
        Check.same("a page leaves it", x.shift(false), true);
    }

    /** "by the level, -3 to 3, 0 at first". */
    private static void levels() {
        Check.same("at first", new TypebarWorks().level(0), 0);
        for (int level = -6; level <= 6; level++) {
            levelOf(level);
        }
        for (int level : Machines.FAR_OFF) {
            levelOf(level);
        }
    }

    private static void levelOf(int level) {
        boolean isThere = level >= -3 && level <= 3;
        int due = isThere ? level : 1;
        TypebarWorks x = Machines.withBars();
        x.level(1);
        x.shift(true);
        Machines.allows("level of " + level, x, isThere, ARGUMENT, y -> y.level(level));
        for (int up = -3; up <= 3; up++) {
            x.align(20, up, 0, 0);
            x.strike(20, 50);
            Check.same("up by " + up + " and the level " + level, x.mark(up + 3, 'u'), up + due);
        }
        Check.same("level before", x.level(0), due);
    }

    /** "and with the shift by the level": not without it, and not of marks that are there. */
    private static void levelByTheShift() {
        TypebarWorks x = Machines.withBars();
        x.level(3);
        x.strike(20, 50);
        x.shift(true);
        x.strike(20, 50);
        x.level(-3);
        x.strike(20, 50);
        x.shift(false);
        x.strike(20, 50);
        int[] due = {0, 3, -3, 0};
        for (int index = 0; index < due.length; index++) {
            Check.same("up in " + index, x.mark(index, 'u'), due[index]);
        }
    }
}
