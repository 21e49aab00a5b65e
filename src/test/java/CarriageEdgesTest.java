/** The edges of the paragraphs "Carriage" and "Margins": each test has the sentence that it is for. */
public final class CarriageEdgesTest {
    private static final String ARGUMENT = "IllegalArgumentException";
    private static final String STATE = "IllegalStateException";
    private static final String UNSUPPORTED = "UnsupportedOperationException";

    public static void main(String[] args) {
        places();
        loads();
        springs();
        atFirst();
        wholeEscapes();
        restGoesBy();
        restOfTheLastStep();
        otherMoves();
        margins();
        marginsAtFirst();
        bells();
        bellPlaces();
        bellByStrokes();
        bellByOtherMoves();
        bellBeyondTheMargin();
        locks();
        lockedAtTheMargin();
        elsewhere();
        released();
        notEndedByOthers();
        Check.end();
    }

    /** "Its place is told in half steps, from 0 to 199, 0 at first". */
    private static void places() {
        Check.same("at first", new TypebarWorks().column(), 0);
        for (int column = 190; column <= 199; column++) {
            TypebarWorks x = Machines.at(column);
            x.release();
            Machines.allows("space from " + column, x, column + 2 <= 199, UNSUPPORTED, TypebarWorks::space);
            TypebarWorks y = Machines.at(column);
            y.release();
            Machines.allows("half from " + column, y, column + 1 <= 199, UNSUPPORTED, TypebarWorks::half);
            TypebarWorks z = Machines.at(column);
            z.release();
            Machines.allows("stroke from " + column, z, column + 2 <= 199, UNSUPPORTED, w -> w.strike(0, 20));
            Check.same("behind the space", x.column(), column + 2 <= 199 ? column + 2 : column);
            Check.same("behind the half space", y.column(), column + 1 <= 199 ? column + 1 : column);
            Check.same("behind the stroke", z.column(), column + 2 <= 199 ? column + 2 : column);
        }
        for (int column = 0; column <= 5; column++) {
            TypebarWorks x = Machines.at(column);
            Machines.allows("back from " + column, x, column >= 2, UNSUPPORTED, TypebarWorks::back);
            Check.same("behind the back space", x.column(), column >= 2 ? column - 2 : column);
        }
    }

    /** "It moves by a load, 0 to 99". */
    private static void loads() {
        for (int load = -2; load <= 102; load++) {
            loadOf(load);
        }
        for (int load : Machines.FAR_OFF) {
            loadOf(load);
        }
    }

    private static void loadOf(int load) {
        boolean isThere = load >= 0 && load <= 99;
        TypebarWorks x = new TypebarWorks();
        Machines.allows("load of " + load, x, isThere, ARGUMENT, y -> y.carriage(load, 1));
        float due = isThere ? 20 + load : 3;
        Check.same("escape by the load " + load, x.escapeBits(), Float.floatToIntBits(due));
    }

    /** "and a spring, 1 to 50". */
    private static void springs() {
        for (int spring = -2; spring <= 53; spring++) {
            springOf(spring);
        }
        for (int spring : Machines.FAR_OFF) {
            springOf(spring);
        }
    }

    private static void springOf(int spring) {
        boolean isThere = spring >= 1 && spring <= 50;
        TypebarWorks x = new TypebarWorks();
        Machines.allows("spring of " + spring, x, isThere, ARGUMENT, y -> y.carriage(99, spring));
        float due = isThere ? 119.0f / spring : 3;
        Check.same("escape by the spring " + spring, x.escapeBits(), Float.floatToIntBits(due));
    }

    /** "10 at first", both of them. */
    private static void atFirst() {
        TypebarWorks x = new TypebarWorks();
        Check.same("30 by 10", x.escapeBits(), Float.floatToIntBits(30.0f / 10.0f));
        x.bar(0, 'a', 'A');
        x.strike(0, 0);
        Check.same("rest at first", x.rest(), 4 + 3);
    }

    /** "as many ticks as the least whole number not below the quotient". */
    private static void wholeEscapes() {
        int[][] due = {{0, 1, 20}, {0, 20, 1}, {0, 19, 2}, {0, 21, 1}, {0, 50, 1}, {1, 20, 2}, {1, 21, 1},
            {30, 50, 1}, {31, 50, 2}, {80, 50, 2}, {81, 50, 3}, {79, 33, 3}, {80, 33, 4}, {99, 1, 119}, {99, 50, 3}};
        TypebarWorks x = new TypebarWorks();
        x.dead(20, '^', '~');
        for (int[] row : due) {
            Check.same("escape of " + row[0] + " by " + row[1], x.carriage(row[0], row[1]), row[2]);
        }
        for (int[] row : due) {
            TypebarWorks y = Machines.withBars();
            y.carriage(row[0], row[1]);
            y.strike(0, 0);
            Check.same("rest of " + row[0] + " by " + row[1], y.rest(), 4 + row[2]);
        }
    }

    /** "it is at rest an escape behind the tick in which that printed", and rest() is "0 if it is". */
    private static void restGoesBy() {
        TypebarWorks x = Machines.withBars();
        x.carriage(0, 4);
        x.strike(0, 10);
        Check.letter("a clash lets ticks go by alone", x.strike(5, 0), 'c');
        for (int left = 9; left >= -3; left--) {
            Check.same("rest with " + left + " left", x.rest(), Math.max(0, left));
            x.strike(5, 1);
        }
    }

    /** "Behind a step that a stroke lets it go", "printed, or would have printed": each step sets it anew. */
    private static void restOfTheLastStep() {
        TypebarWorks x = Machines.withBars();
        x.carriage(80, 10);
        Check.letter("prints", x.strike(0, 10), 'p');
        Check.same("behind a print", x.rest(), 4 + 10);
        Check.letter("skips", x.strike(5, 9), 's');
        Check.same("behind a skip", x.rest(), 4 + 10);
        Check.letter("at rest in the tick of the print", x.strike(0, 10), 'p');
        Check.same("behind that print", x.rest(), 4 + 10);
        Check.letter("a dead one skips", x.strike(20, 9), 's');
        Check.same("it lets no step go", x.rest(), 5);
        Check.letter("a dead one prints", x.strike(23, 5), 'p');
        Check.same("nor does that", x.rest(), 0);
    }

    /** "by all other moves it comes to rest at once". */
    private static void otherMoves() {
        String[] names = {"space", "half", "back", "home", "page", "tab", "decimal"};
        for (int move = 0; move < names.length; move++) {
            TypebarWorks x = Machines.withBars();
            x.carriage(99, 1);
            x.stop(100, true);
            x.strike(0, 10);
            Check.same("under way ahead of " + names[move], x.rest(), 4 + 119);
            otherMove(x, move);
            Check.same("at rest behind " + names[move], x.rest(), 0);
            Check.letter("prints behind " + names[move], x.strike(20, 3), 'p');
        }
    }

    private static void otherMove(TypebarWorks x, int move) {
        switch (move) {
            case 0 -> x.space();
            case 1 -> x.half();
            case 2 -> x.back();
            case 3 -> x.home();
            case 4 -> x.page();
            case 5 -> x.tab();
            default -> x.decimal(9);
        }
    }

    /** "The left one is from 0 on, the right one above it, up to 199"; "0 to 30" of the bell. */
    private static void margins() {
        int[] numbers = {-2, -1, 0, 1, 2, 99, 100, 101, 197, 198, 199, 200, 201};
        for (int left : numbers) {
            for (int right : numbers) {
                marginsOf(left, right, 5);
            }
        }
        for (int bell = -2; bell <= 33; bell++) {
            marginsOf(0, 199, bell);
        }
        for (int number : Machines.FAR_OFF) {
            marginsOf(number, 199, 5);
            marginsOf(0, number, 5);
            marginsOf(0, 199, number);
        }
        marginsOf(Integer.MAX_VALUE, Integer.MIN_VALUE, 5);
        marginsOf(199, Integer.MIN_VALUE, 5);
    }

    private static void marginsOf(int left, int right, int bell) {
        String what = "margins of " + left + ", " + right + ", " + bell;
        boolean isThere = left >= 0 && left < right && right <= 199 && bell >= 0 && bell <= 30;
        TypebarWorks x = new TypebarWorks();
        Machines.allows(what, x, isThere, ARGUMENT, y -> y.margins(left, right, bell));
        x.home();
        Check.same(what + ": the left one", x.column(), isThere ? left : 0);
        Check.same(what + ": the right one", x.margins(0, 160, 10), isThere ? right : 160);
    }

    /** "0 and 160 at first"; the bell "10 at first". */
    private static void marginsAtFirst() {
        TypebarWorks x = new TypebarWorks();
        x.space();
        x.home();
        Check.same("the left one", x.column(), 0);
        Machines.goUpTo(x, 148);
        x.half();
        Check.same("no bell at 149", x.rings(), 0);
        x.half();
        Check.same("the bell at 150", x.rings(), 1);
        Machines.goUpTo(x, 159);
        Check.same("open at 159", x.half(), 160);
        Machines.allows("locked at 160", x, false, STATE, TypebarWorks::half);
        Check.same("the right one", x.margins(0, 1, 0), 160);
    }

    /** "as many half steps ahead of the right margin as told", 0 and 30 too: to there, by half spaces. */
    private static void bells() {
        int[] bells = {0, 1, 2, 10, 29, 30};
        int[] rights = {1, 2, 3, 29, 30, 31, 32, 100, 199};
        for (int bell : bells) {
            for (int right : rights) {
                TypebarWorks x = new TypebarWorks();
                x.margins(0, right, bell);
                for (int column = 1; column <= right; column++) {
                    x.half();
                    boolean isRung = right - bell > 0 && column >= right - bell;
                    Check.same("bell " + bell + " of " + right + " at " + column, x.rings(), isRung ? 1 : 0);
                }
            }
        }
    }

    /** "from below", "to there or beyond": spaces from each half step about it. */
    private static void bellPlaces() {
        for (int column = 30; column <= 45; column++) {
            TypebarWorks x = Machines.at(column);
            x.margins(0, 50, 10);
            x.space();
            Check.same("a space from " + column, x.rings(), column < 40 && column + 2 >= 40 ? 1 : 0);
            TypebarWorks y = Machines.at(column);
            y.margins(0, 50, 10);
            y.half();
            Check.same("a half space from " + column, y.rings(), column == 39 ? 1 : 0);
            TypebarWorks z = Machines.at(column);
            z.margins(0, 50, 10);
            z.strike(0, 20);
            z.strike(20, 20);
            Check.same("a stroke from " + column, z.rings(), column < 40 && column + 2 >= 40 ? 1 : 0);
        }
    }

    /** "as often as the carriage comes", "by a stroke": a print and a skip, not a stroke that moves nothing. */
    private static void bellByStrokes() {
        TypebarWorks x = Machines.at(38);
        x.margins(0, 50, 10);
        x.carriage(99, 1);
        Check.letter("a print", x.strike(0, 20), 'p');
        Check.same("rung by a print", x.rings(), 1);
        x.back();
        Check.letter("not home", x.strike(0, 1), 'b');
        Check.letter("a clash", x.strike(5, 0), 'c');
        Check.letter("jammed", x.strike(5, 50), 'j');
        x.free();
        x.back();
        Check.letter("a print below", x.strike(5, 20), 'p');
        Check.same("not rung by these", x.rings(), 1);
        Check.letter("a skip", x.strike(0, 20), 's');
        Check.same("rung by a skip", x.rings(), 2);
    }

    /** "by a stroke, a space or a half space": no other move rings, nor a refused or locked one. */
    private static void bellByOtherMoves() {
        TypebarWorks x = Machines.at(30);
        x.margins(0, 50, 10);
        x.stop(40, true);
        x.stop(46, true);
        Check.same("tab", x.tab(), 40);
        x.back();
        Check.same("decimal", x.decimal(0), 40);
        x.page();
        x.margins(45, 50, 10);
        x.home();
        x.margins(44, 46, 0);
        x.page();
        x.tab();
        Machines.allows("locked", x, false, STATE, TypebarWorks::space);
        Check.letter("locked stroke", x.strike(0, 50), 'm');
        Check.same("not rung", x.rings(), 0);
        TypebarWorks y = Machines.at(198);
        y.margins(0, 199, 0);
        Machines.allows("above 199", y, false, UNSUPPORTED, TypebarWorks::space);
        Check.same("not rung by a refused one", y.rings(), 0);
    }

    /** A bell at the margin or, by new margins, below the carriage rings only "from below". */
    private static void bellBeyondTheMargin() {
        TypebarWorks x = Machines.at(40);
        x.margins(0, 50, 10);
        x.space();
        Check.same("not from there", x.rings(), 0);
        x.margins(0, 43, 0);
        x.release();
        x.space();
        Check.same("at the margin, released", x.rings(), 1);
        x.space();
        Check.same("beyond it", x.rings(), 1);
        x.back();
        x.back();
        x.space();
        Check.same("as often as it comes", x.rings(), 2);
    }

    /** "At the right margin or beyond it strokes of plain bars and spaces are locked". */
    private static void locks() {
        int[] rights = {1, 2, 100, 196, 197};
        for (int right : rights) {
            for (int column = right - 1; column <= right + 2; column++) {
                boolean isOpen = column < right;
                String what = " at " + column + " of " + right;
                Machines.allows("space" + what, lockable(column, right), isOpen, STATE, TypebarWorks::space);
                Machines.allows("half" + what, lockable(column, right), isOpen, STATE, TypebarWorks::half);
                Check.letter("plain" + what, lockable(column, right).strike(0, 20), isOpen ? 'p' : 'm');
                Check.letter("the last plain" + what, lockable(column, right).strike(19, 20), isOpen ? 'p' : 'm');
                Check.letter("the first dead" + what, lockable(column, right).strike(20, 20), 'p');
                Check.letter("the last dead" + what, lockable(column, right).strike(23, 20), 'p');
            }
        }
    }

    private static TypebarWorks lockable(int column, int right) {
        TypebarWorks x = Machines.at(column);
        x.margins(0, right, 0);
        return x;
    }

    /** The last right margin: 199, with 198 still open and 199 locked. */
    private static void lockedAtTheMargin() {
        TypebarWorks x = lockable(198, 199);
        Check.same("open at 198", x.half(), 199);
        Machines.allows("half at 199", x, false, STATE, TypebarWorks::half);
        Machines.allows("space at 199", x, false, STATE, TypebarWorks::space);
        Check.letter("plain at 199", x.strike(0, 20), 'm');
        Check.letter("dead at 199", x.strike(20, 20), 'p');
        Check.same("the mark there", x.mark(0, 'c'), 199);
    }

    /** "until the carriage is elsewhere": by a back space, a return, a new page; not by a tabulator beyond. */
    private static void elsewhere() {
        TypebarWorks x = lockable(20, 20);
        Check.same("back is not locked", x.back(), 18);
        Check.letter("open below", x.strike(0, 20), 'p');
        Check.letter("locked there again", x.strike(0, 20), 'm');
        x.home();
        Check.letter("open behind a return", x.strike(0, 20), 'p');
        TypebarWorks y = lockable(20, 20);
        y.stop(30, true);
        y.stop(50, true);
        Check.same("a tabulator is not locked", y.tab(), 30);
        Check.letter("locked beyond", y.strike(0, 20), 'm');
        Check.same("nor by decimals", y.decimal(3), 44);
        Check.letter("locked beyond, too", y.strike(0, 20), 'm');
        y.page();
        Check.letter("open on a new page", y.strike(0, 20), 'p');
        TypebarWorks z = lockable(20, 20);
        z.margins(0, 21, 0);
        Check.letter("open by another margin", z.strike(0, 20), 'p');
    }

    /** "or the margins are released, which ends with a return, and with a new page". */
    private static void released() {
        for (int end = 0; end < 2; end++) {
            TypebarWorks x = lockable(20, 20);
            Check.same("not released", x.release(), false);
            Check.same("released", x.release(), true);
            Check.letter("a stroke", x.strike(0, 20), 'p');
            Check.same("a space", x.space(), 24);
            Check.same("a half space", x.half(), 25);
            if (end == 0) {
                x.home();
            } else {
                x.page();
            }
            Machines.goUpTo(x, 20);
            Check.letter("locked again", x.strike(0, 20), 'm');
            Machines.allows("space locked again", x, false, STATE, TypebarWorks::space);
            Check.same("released no more", x.release(), false);
        }
    }

    /** The release ends with nothing else, not with a return that is refused either. */
    private static void notEndedByOthers() {
        TypebarWorks x = Machines.rolledTo(399);
        x.release();
        x.margins(0, 20, 5);
        Machines.goUpTo(x, 30);
        x.back();
        x.shift(true);
        x.free();
        x.ribbon(5);
        x.roll(0);
        x.strike(20, 50);
        Machines.allows("a return above 399", x, false, UNSUPPORTED, TypebarWorks::home);
        Check.same("released still", x.release(), true);
        Check.letter("open still", x.strike(0, 50), 'p');
    }
}
