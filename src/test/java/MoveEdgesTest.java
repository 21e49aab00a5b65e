/** The edges of the paragraph "Moves": each test has the sentence that it is for. */
public final class MoveEdgesTest {
    private static final String ARGUMENT = "IllegalArgumentException";
    private static final String UNSUPPORTED = "UnsupportedOperationException";
    private static final String NONE = "NoSuchElementException";

    public static void main(String[] args) {
        steps();
        skipAbove();
        lineSpaces();
        returns();
        returnToTheLeft();
        thirds();
        rollUp();
        rollDown();
        newPage();
        stops();
        stopsAtFirst();
        nextStop();
        allStops();
        digits();
        decimalsAboveWhereItIs();
        decimalsWithAllStops();
        Check.end();
    }

    /** "A space goes a step on, a half space half a step, a back space a step back". */
    private static void steps() {
        TypebarWorks x = Machines.withBars();
        for (int column = 1; column <= 199; column++) {
            Check.same("half space to " + column, x.half(), column);
        }
        Check.same("at the end", x.column(), 199);
        for (int column = 197; column >= 1; column -= 2) {
            Check.same("back space to " + column, x.back(), column);
        }
        Machines.allows("back from 1", x, false, UNSUPPORTED, TypebarWorks::back);
        for (int column = 3; column <= 199; column += 2) {
            Check.same("space to " + column, x.space(), column);
        }
    }

    /** "nothing goes above 199": nor does a skip of a plain bar; that of a dead one goes nowhere. */
    private static void skipAbove() {
        for (int column = 194; column <= 197; column++) {
            TypebarWorks x = Machines.at(column);
            x.release();
            x.carriage(99, 1);
            Check.letter("a print at " + column, x.strike(0, 20), 'p');
            boolean isAllowed = column + 4 <= 199;
            Check.letter("a dead skip at " + (column + 2), x.strike(20, 20), 's');
            Machines.allows("a skip from " + (column + 2), x, isAllowed, UNSUPPORTED, y -> y.strike(5, 20));
            Check.same("column behind the skip", x.column(), isAllowed ? column + 4 : column + 2);
            Check.same("strokes behind the skip", x.now(), isAllowed ? 60 : 40);
        }
    }

    /** "the line space, 2, 3 or 4 half lines, 2 at first", "half a line is 3". */
    private static void lineSpaces() {
        Check.same("at first", new TypebarWorks().lines(4), 2);
        Check.same("a return at first", new TypebarWorks().home(), 6);
        for (int halves = -1; halves <= 7; halves++) {
            lineSpaceOf(halves);
        }
        for (int halves : Machines.FAR_OFF) {
            lineSpaceOf(halves);
        }
    }

    private static void lineSpaceOf(int halves) {
        boolean isThere = halves >= 2 && halves <= 4;
        TypebarWorks x = new TypebarWorks();
        x.lines(3);
        Machines.allows("line space of " + halves, x, isThere, ARGUMENT, y -> y.lines(halves));
        Check.same("rolled by the line space " + halves, x.home(), 3 * (isThere ? halves : 3));
        Check.same("the one before " + halves, x.lines(2), isThere ? halves : 3);
    }

    /** "rolls the platen on by the line space"; "from 0 to 399". */
    private static void returns() {
        for (int halves = 2; halves <= 4; halves++) {
            for (int sixth = 385; sixth <= 399; sixth++) {
                TypebarWorks x = Machines.rolledTo(sixth);
                x.lines(halves);
                x.space();
                boolean isAllowed = sixth + 3 * halves <= 399;
                String what = "a return by " + halves + " from " + sixth;
                Machines.allows(what, x, isAllowed, UNSUPPORTED, TypebarWorks::home);
                Check.same(what + ": the sixth", x.roll(0), isAllowed ? sixth + 3 * halves : sixth);
                Check.same(what + ": the carriage", x.column(), isAllowed ? 0 : 2);
            }
        }
    }

    /** "The return goes to the left margin": from above it, from below it, and from there; 0 and 198. */
    private static void returnToTheLeft() {
        int[] lefts = {0, 1, 100, 197, 198};
        for (int left : lefts) {
            TypebarWorks x = Machines.at(100);
            x.margins(left, 199, 30);
            x.home();
            Check.same("the left margin " + left, x.column(), left);
            x.home();
            Check.same("the left margin " + left + " again", x.column(), left);
            Check.same("no bell at " + left, x.rings(), 0);
        }
    }

    /** "thirds: the thirds of a line, -30 to 30", "2 of these each". */
    private static void thirds() {
        for (int thirds = -33; thirds <= 33; thirds++) {
            rollOf(thirds);
        }
        for (int thirds : Machines.FAR_OFF) {
            rollOf(thirds);
        }
        rollOf(1 << 30);
        rollOf(1 << 31);
    }

    private static void rollOf(int thirds) {
        boolean isThere = thirds >= -30 && thirds <= 30;
        TypebarWorks x = Machines.rolledTo(200);
        Machines.allows("rolled by " + thirds, x, isThere, ARGUMENT, y -> y.roll(thirds));
        Check.same("the sixth behind " + thirds, x.roll(0), isThere ? 200 + 2 * thirds : 200);
    }

    /** "or above 399". */
    private static void rollUp() {
        for (int sixth = 334; sixth <= 399; sixth++) {
            int most = (399 - sixth) / 2;
            for (int thirds = Math.max(0, most - 1); thirds <= Math.min(30, most + 2); thirds++) {
                int by = thirds;
                TypebarWorks x = Machines.rolledTo(sixth);
                Machines.allows("from " + sixth + " by " + by, x, by <= most, UNSUPPORTED, y -> y.roll(by));
                Check.same("from " + sixth + " by " + by, x.roll(0), by <= most ? sixth + 2 * by : sixth);
            }
        }
    }

    /** "if it would be below 0". */
    private static void rollDown() {
        for (int sixth = 0; sixth <= 64; sixth++) {
            int most = sixth / 2;
            for (int thirds = Math.max(0, most - 1); thirds <= Math.min(30, most + 2); thirds++) {
                int by = -thirds;
                TypebarWorks x = rolledDownTo(sixth);
                boolean isAllowed = -by <= most;
                Machines.allows("from " + sixth + " by " + by, x, isAllowed, UNSUPPORTED, y -> y.roll(by));
                Check.same("from " + sixth + " by " + by, x.roll(0), isAllowed ? sixth + 2 * by : sixth);
            }
        }
    }

    private static TypebarWorks rolledDownTo(int sixth) {
        TypebarWorks x = Machines.rolledTo(sixth + 10);
        x.roll(-5);
        return x;
    }

    /** "Takes a new page; the platen is at 0", from both ends. */
    private static void newPage() {
        TypebarWorks x = Machines.rolledTo(399);
        x.page();
        Check.same("from 399", x.roll(0), 0);
        x.page();
        Check.same("from 0", x.roll(0), 0);
        Check.same("carriage", x.column(), 0);
    }

    /** "column: the half step, 0 to 199". */
    private static void stops() {
        int[] columns = {-200, -2, -1, 0, 1, 2, 99, 198, 199, 200, 201};
        for (int column : columns) {
            stopAt(column);
        }
        for (int column : Machines.FAR_OFF) {
            stopAt(column);
        }
    }

    private static void stopAt(int column) {
        boolean isThere = column >= 0 && column <= 199;
        TypebarWorks x = new TypebarWorks();
        Machines.allows("set at " + column, x, isThere, ARGUMENT, y -> y.stop(column, true));
        for (int other = Math.max(0, column - 2); other <= Math.min(199, column + 2L); other++) {
            Check.same("set at " + column + ", is at " + other, x.stop(other, other == column), other == column);
        }
        Machines.allows("away from " + column, x, isThere, ARGUMENT, y -> y.stop(column, false));
        Machines.allows("none behind " + column, x, false, NONE, TypebarWorks::tab);
    }

    /** A new machine has no stop, so that it can go to none. */
    private static void stopsAtFirst() {
        TypebarWorks x = new TypebarWorks();
        Machines.allows("tab", x, false, NONE, TypebarWorks::tab);
        for (int digits = 0; digits <= 9; digits++) {
            int by = digits;
            Machines.allows("decimal of " + by, x, false, NONE, y -> y.decimal(by));
        }
        Check.same("stays", x.column(), 0);
    }

    /** "the carriage goes to the next stop above it": not to the one at which it is, nor to one below. */
    private static void nextStop() {
        for (int column = 0; column <= 199; column++) {
            TypebarWorks x = Machines.at(column);
            x.stop(100, true);
            Machines.allows("tab from " + column, x, column < 100, NONE, TypebarWorks::tab);
            Check.same("behind a tab from " + column, x.column(), Math.max(100, column));
        }
        TypebarWorks y = Machines.at(198);
        y.stop(199, true);
        y.stop(0, true);
        Check.same("the last one", y.tab(), 199);
        Machines.allows("none above the last one", y, false, NONE, TypebarWorks::tab);
    }

    /** Stops at all half steps: the next one is half a step on, and at 199 there is none. */
    private static void allStops() {
        TypebarWorks x = new TypebarWorks();
        for (int column = 0; column <= 199; column++) {
            x.stop(column, true);
        }
        for (int column = 1; column <= 199; column++) {
            Check.same("tab to " + column, x.tab(), column);
        }
        Machines.allows("tab at 199", x, false, NONE, TypebarWorks::tab);
        Machines.allows("decimal at 199", x, false, NONE, y -> y.decimal(0));
        Check.same("no bell", x.rings(), 0);
    }

    /** "digits: the digits ahead of the point, 0 to 9". */
    private static void digits() {
        for (int digits = -2; digits <= 12; digits++) {
            digitsOf(digits);
        }
        for (int digits : Machines.FAR_OFF) {
            digitsOf(digits);
        }
        digitsOf(1 << 30);
        digitsOf(1 << 31);
    }

    private static void digitsOf(int digits) {
        boolean isThere = digits >= 0 && digits <= 9;
        TypebarWorks x = new TypebarWorks();
        x.stop(199, true);
        Machines.allows("digits of " + digits, x, isThere, ARGUMENT, y -> y.decimal(digits));
        Check.same("one step less for each of " + digits, x.column(), isThere ? 199 - 2 * digits : 0);
    }

    /** "to one step less than that for each digit ahead of the point, if this is above where it is". */
    private static void decimalsAboveWhereItIs() {
        for (int column = 0; column <= 24; column++) {
            for (int digits = 0; digits <= 9; digits++) {
                int by = digits;
                TypebarWorks x = Machines.at(column);
                x.stop(22, true);
                x.stop(25, true);
                int target = (column < 22 ? 22 : 25) - 2 * by;
                boolean isAllowed = target > column;
                Machines.allows(by + " digits from " + column, x, isAllowed, NONE, y -> y.decimal(by));
                Check.same(by + " digits from " + column, x.column(), isAllowed ? target : column);
            }
        }
        TypebarWorks x = new TypebarWorks();
        x.stop(5, true);
        Machines.allows("to below 0", x, false, NONE, y -> y.decimal(9));
        Check.same("stays at 0", x.column(), 0);
        x.stop(1, true);
        Check.same("half a step above", x.decimal(0), 1);
    }

    /** With a stop at each half step no digit fits in. */
    private static void decimalsWithAllStops() {
        TypebarWorks x = new TypebarWorks();
        for (int column = 0; column <= 199; column++) {
            x.stop(column, true);
        }
        Machines.allows("a digit", x, false, NONE, y -> y.decimal(1));
        Machines.allows("nine of them", x, false, NONE, y -> y.decimal(9));
        Check.same("none of them", x.decimal(0), 1);
        x.stop(2, false);
        Machines.allows("a digit by one stop less", x, false, NONE, y -> y.decimal(1));
        x.stop(3, false);
        Check.same("a digit by two stops less", x.decimal(1), 2);
    }
}
