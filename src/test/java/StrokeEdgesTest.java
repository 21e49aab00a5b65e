/** The edges of the paragraphs "Strokes" and "Prints": each test has the sentence that it is for. */
public final class StrokeEdgesTest {
    private static final String ARGUMENT = "IllegalArgumentException";
    private static final String NONE = "NoSuchElementException";

    public static void main(String[] args) {
        waits();
        ticks();
        jammedFirst();
        lockedFirst();
        notHomeFirst();
        clashFirst();
        skipFirst();
        jammedTillFreed();
        homeBehindPrints();
        homeBehindSkips();
        homeBehindOthers();
        homeWhenFreed();
        clashes();
        clashesOfLowerPlaces();
        clashesWithTheLast();
        noClashWithOthers();
        noClashBehindFree();
        clashWithSkips();
        skips();
        skipOfEachKind();
        wornSides();
        sidesTogether();
        fullPage();
        fullPageOfSkips();
        Check.end();
    }

    /** "so many ticks behind the one ahead, 0 to 99". */
    private static void waits() {
        for (int wait = -3; wait <= 103; wait++) {
            waitOf(wait);
        }
        for (int wait : Machines.FAR_OFF) {
            waitOf(wait);
        }
    }

    private static void waitOf(int wait) {
        boolean isThere = wait >= 0 && wait <= 99;
        TypebarWorks x = Machines.withBars();
        Check.same("the tick at first", x.now(), 0);
        Machines.allows("wait of " + wait, x, isThere, ARGUMENT, y -> y.strike(20, wait));
        Check.same("the tick behind " + wait, x.now(), isThere ? wait : 0);
        Check.same("marks behind " + wait, x.marks(), isThere ? 1 : 0);
    }

    /** "Returns the tick of the last stroke": each stroke that was not refused lets ticks go by. */
    private static void ticks() {
        TypebarWorks x = Machines.withBars();
        x.carriage(99, 1);
        Check.letter("a print", x.strike(0, 99), 'p');
        Check.letter("not home", x.strike(0, 1), 'b');
        Check.letter("a skip", x.strike(5, 10), 's');
        Check.letter("a clash", x.strike(1, 2), 'c');
        Check.letter("jammed", x.strike(1, 3), 'j');
        Machines.allows("no bar", x, false, NONE, y -> y.strike(2, 50));
        Check.same("so far", x.now(), 99 + 1 + 10 + 2 + 3);
        x.free();
        x.margins(0, 1, 0);
        Check.letter("locked", x.strike(1, 4), 'm');
        Check.same("the last one", x.now(), 99 + 1 + 10 + 2 + 3 + 4);
    }

    /** "by the first of these": 'j' ahead of all others. */
    private static void jammedFirst() {
        TypebarWorks x = Machines.withBars();
        x.strike(0, 50);
        Check.letter("a clash jams", x.strike(5, 0), 'c');
        Check.letter("ahead of 'b'", x.strike(0, 0), 'j');
        Check.letter("ahead of 'c'", x.strike(1, 0), 'j');
        Check.letter("ahead of 's'", x.strike(19, 3), 'j');
        Check.letter("ahead of 'p'", x.strike(19, 99), 'j');
        x.margins(0, 1, 0);
        Check.letter("ahead of 'm'", x.strike(19, 99), 'j');
        Check.letter("of a dead one", x.strike(23, 99), 'j');
    }

    /** 'm' ahead of 'b', 'c', 's' and 'p'; a dead bar is none of these that are locked. */
    private static void lockedFirst() {
        TypebarWorks x = Machines.withBars();
        x.carriage(99, 1);
        x.strike(0, 50);
        x.margins(0, 1, 0);
        Check.letter("ahead of 'b'", x.strike(0, 1), 'm');
        Check.letter("ahead of 'c'", x.strike(5, 0), 'm');
        Check.letter("ahead of 's'", x.strike(5, 10), 'm');
        Check.letter("a dead one skips", x.strike(20, 0), 's');
        Check.letter("a dead one is not home", x.strike(20, 0), 'b');
        Check.letter("a dead one clashes", x.strike(23, 0), 'c');
        Check.letter("'j' ahead of it", x.strike(0, 0), 'j');
        x.free();
        Check.letter("ahead of 'p'", x.strike(0, 99), 'm');
    }

    /** 'b' ahead of 'c', 's' and 'p'. */
    private static void notHomeFirst() {
        TypebarWorks x = Machines.withBars();
        x.speed(0, 9, 9);
        x.strike(0, 50);
        Check.letter("ahead of 'c'", x.strike(0, 0), 'b');
        Check.letter("it does not jam", x.strike(5, 8), 'p');
        TypebarWorks y = Machines.withBars();
        y.carriage(99, 1);
        y.strike(0, 50);
        Check.letter("ahead of 's'", y.strike(0, 7), 'b');
        Check.letter("'s' as it is home", y.strike(0, 1), 's');
        TypebarWorks z = Machines.withBars();
        z.strike(20, 50);
        Check.letter("ahead of 'p'", z.strike(20, 7), 'b');
        Check.same("and nothing prints", z.marks(), 1);
    }

    /** 'c' ahead of 's' and 'p'. */
    private static void clashFirst() {
        TypebarWorks x = Machines.withBars();
        x.carriage(99, 1);
        x.strike(0, 50);
        Check.letter("ahead of 's'", x.strike(5, 2), 'c');
        Check.same("goes nowhere", x.column(), 2);
        TypebarWorks y = Machines.withBars();
        y.strike(20, 50);
        Check.letter("ahead of 'p'", y.strike(23, 2), 'c');
        Check.same("prints nothing", y.marks(), 1);
        Check.letter("and jams", y.strike(23, 50), 'j');
    }

    /** 's' ahead of 'p'. */
    private static void skipFirst() {
        TypebarWorks x = Machines.withBars();
        x.carriage(99, 1);
        x.strike(0, 50);
        Check.letter("skips", x.strike(5, 10), 's');
        Check.same("prints nothing", x.marks(), 1);
        Check.same("goes a step", x.column(), 4);
        Check.letter("does not jam", x.strike(20, 99), 's');
        x.space();
        Check.letter("prints at rest", x.strike(5, 10), 'p');
    }

    /** "the bars are jammed, till they are freed": by nothing else. */
    private static void jammedTillFreed() {
        TypebarWorks x = Machines.withBars();
        x.strike(0, 50);
        x.strike(5, 0);
        x.home();
        x.page();
        x.release();
        x.solder(5);
        x.bar(5, 'c', 'C');
        x.bar(0, 'a', 'A');
        x.ribbon(5);
        x.carriage(0, 50);
        Check.letter("jammed still", x.strike(5, 99), 'j');
        Check.same("freed", x.free(), true);
        Check.same("freed once", x.free(), false);
        Check.letter("prints", x.strike(5, 0), 'p');
    }

    /** "the ticks in which it rose and fell then have not gone by since": one less, and as many. */
    private static void homeBehindPrints() {
        for (int rise = 2; rise <= 9; rise++) {
            for (int fall = 2; fall <= 9; fall++) {
                String what = " behind " + rise + " and " + fall;
                TypebarWorks x = Machines.withBars();
                x.speed(20, rise, fall);
                x.strike(20, 10);
                x.speed(20, 11 - rise, 11 - fall);
                Check.letter("not home at once" + what, x.strike(20, 0), 'b');
                Check.letter("not home" + what, x.strike(20, rise + fall - 1), 'b');
                Check.letter("home" + what, x.strike(20, 1), 'p');
            }
        }
    }

    /** "it was struck before, which was not 'j', 'm' or 'b'": a skip counts. */
    private static void homeBehindSkips() {
        for (int rise = 2; rise <= 9; rise++) {
            for (int fall = 2; fall <= 9; fall++) {
                String what = " behind a skip of " + rise + " and " + fall;
                TypebarWorks x = Machines.withBars();
                x.speed(5, rise, fall);
                x.carriage(99, 1);
                x.strike(0, 10);
                Check.letter("skips" + what, x.strike(5, 10), 's');
                Check.letter("not home" + what, x.strike(5, rise + fall - 1), 'b');
                Check.letter("home" + what, x.strike(5, 1), 's');
            }
        }
    }

    /** "which was not 'j', 'm' or 'b'": these do not count. */
    private static void homeBehindOthers() {
        TypebarWorks x = Machines.withBars();
        x.strike(20, 10);
        for (int tick = 1; tick <= 7; tick++) {
            Check.letter("not home at " + tick, x.strike(20, 1), 'b');
        }
        Check.letter("home at 8", x.strike(20, 1), 'p');
        TypebarWorks y = Machines.at(10);
        y.margins(0, 10, 0);
        Check.letter("locked", y.strike(0, 10), 'm');
        y.release();
        Check.letter("home behind a locked one", y.strike(0, 0), 'p');
        TypebarWorks z = Machines.withBars();
        z.strike(20, 10);
        Check.letter("a clash", z.strike(0, 0), 'c');
        Check.letter("jammed", z.strike(5, 1), 'j');
        z.free();
        Check.letter("home behind a jammed one", z.strike(5, 0), 'p');
    }

    /** "Frees the bars; all are home then": at each place, jammed or not. */
    private static void homeWhenFreed() {
        int[] places = {0, 1, 5, 19, 20, 23};
        for (int place : places) {
            TypebarWorks x = Machines.withBars();
            x.speed(place, 9, 9);
            x.strike(place, 0);
            Check.same("not jammed by " + place, x.free(), false);
            x.page();
            Check.letter("home at " + place, x.strike(place, 0), 'p');
            x.strike(place == 5 ? 0 : 5, 0);
            Check.same("jammed by " + place, x.free(), true);
            x.page();
            Check.letter("home again at " + place, x.strike(place, 0), 'p');
        }
    }

    /** "ahead of that of the other one, or at most 2 behind it, or, if both places are next to each other, 4". */
    private static void clashes() {
        int[][] pairs = {{0, 1, 4}, {18, 19, 4}, {19, 20, 4}, {20, 21, 4}, {22, 23, 4}, {9, 10, 4},
            {0, 2, 2}, {18, 20, 2}, {21, 23, 2}, {0, 23, 2}, {0, 19, 2}, {20, 23, 2}};
        for (int[] pair : pairs) {
            clashesOf(pair[0], pair[1], pair[2]);
        }
    }

    private static void clashesOfLowerPlaces() {
        int[][] pairs = {{1, 0, 4}, {19, 18, 4}, {20, 19, 4}, {21, 20, 4}, {23, 22, 4}, {10, 9, 4},
            {2, 0, 2}, {20, 18, 2}, {23, 21, 2}, {23, 0, 2}, {19, 0, 2}, {23, 20, 2}};
        for (int[] pair : pairs) {
            clashesOf(pair[0], pair[1], pair[2]);
        }
    }

    private static void clashesOf(int first, int second, int most) {
        for (int wait = 0; wait <= 13; wait++) {
            TypebarWorks x = new TypebarWorks();
            putAt(x, first);
            putAt(x, second);
            x.carriage(0, 50);
            x.speed(first, 9, 2);
            x.speed(second, 2, 2);
            x.space();
            Check.letter("the first one at " + first, x.strike(first, 10), 'p');
            // a back space brings the carriage to rest, so that there is no skip
            x.back();
            int behind = wait + 2 - 9;
            Check.letter(second + " prints " + behind + " behind " + first, x.strike(second, wait),
                    behind <= most ? 'c' : 'p');
        }
    }

    private static void putAt(TypebarWorks x, int place) {
        if (place < 20) {
            x.bar(place, 'a', 'A');
        } else {
            x.dead(place, 'a', 'A');
        }
    }

    /** "with the last stroke that was 'p' or 's'": not with one ahead of it. */
    private static void clashesWithTheLast() {
        TypebarWorks x = Machines.withBars();
        x.strike(0, 10);
        Check.letter("the last one", x.strike(20, 3), 'p');
        Check.letter("next to the one ahead of it", x.strike(1, 3), 'p');
        TypebarWorks y = Machines.withBars();
        y.strike(0, 10);
        y.strike(20, 3);
        Check.letter("not behind the last one", y.strike(1, 2), 'c');
    }

    /** "that was 'p' or 's'": strokes that were 'b', 'm', or refused are none to clash with. */
    private static void noClashWithOthers() {
        TypebarWorks x = Machines.withBars();
        x.strike(20, 10);
        Check.letter("not home", x.strike(20, 7), 'b');
        Check.letter("not with that", x.strike(19, 0), 'p');
        TypebarWorks y = Machines.at(10);
        y.margins(0, 10, 0);
        Check.letter("locked", y.strike(0, 10), 'm');
        Check.letter("nor with that", y.strike(20, 0), 'p');
        Machines.allows("refused", y, false, NONE, z -> z.strike(21, 50));
        Check.letter("nor with one that is refused", y.strike(23, 3), 'p');
    }

    /** "since the bars were freed last": with none ahead of that, nor with the clash itself. */
    private static void noClashBehindFree() {
        TypebarWorks x = Machines.withBars();
        Check.letter("the first of all", x.strike(20, 0), 'p');
        Check.letter("a clash", x.strike(23, 0), 'c');
        x.free();
        Check.letter("the first behind free", x.strike(23, 0), 'p');
        Check.letter("clashes with that", x.strike(20, 2), 'c');
        x.free();
        Check.letter("the first behind free again", x.strike(20, 0), 'p');
        x.free();
        Check.letter("free without a jam", x.strike(23, 0), 'p');
    }

    /** "that was 'p' or 's'": a skip is one to clash with, 2 behind and not 3. */
    private static void clashWithSkips() {
        for (int wait = 0; wait <= 4; wait++) {
            TypebarWorks x = Machines.withBars();
            x.carriage(99, 1);
            x.strike(0, 10);
            Check.letter("a skip", x.strike(20, 10), 's');
            Check.letter("at " + wait + " behind it", x.strike(5, wait), wait <= 2 ? 'c' : 's');
        }
    }

    /** "the carriage is not at rest in the tick in which it would print": one ahead of rest, and at rest. */
    private static void skips() {
        int[][] escapes = {{99, 20, 6}, {99, 10, 12}, {0, 1, 20}, {99, 2, 60}};
        for (int[] escape : escapes) {
            for (int rise = 2; rise <= 9; rise++) {
                // the first stroke prints 4 behind its tick
                int wait = 4 + escape[2] - rise;
                String what = " behind an escape of " + escape[2] + " by a rise of " + rise;
                Check.letter("at rest" + what, moving(escape, rise).strike(20, wait), 'p');
                Check.letter("not yet" + what, moving(escape, rise).strike(20, wait - 1), 's');
                Check.letter("plain, at rest" + what, moving(escape, rise).strike(5, wait), 'p');
                Check.letter("plain, not yet" + what, moving(escape, rise).strike(5, wait - 1), 's');
            }
        }
        int[] least = {60, 20, 4};
        Check.letter("3 behind, no clash, but a skip", moving(least, 4).strike(20, 3), 's');
        Check.letter("4 behind, at rest", moving(least, 4).strike(20, 4), 'p');
    }

    private static TypebarWorks moving(int[] escape, int rise) {
        TypebarWorks x = Machines.withBars();
        Check.same("an escape", x.carriage(escape[0], escape[1]), escape[2]);
        x.speed(5, rise, 9);
        x.speed(20, rise, 9);
        x.strike(0, 10);
        return x;
    }

    /** "nothing prints, and a plain bar lets the carriage go a step all the same". */
    private static void skipOfEachKind() {
        int[] places = {1, 5, 19, 20, 23};
        for (int place : places) {
            TypebarWorks x = Machines.withBars();
            x.carriage(99, 1);
            x.strike(0, 10);
            Check.letter("a skip of " + place, x.strike(place, 10), 's');
            Check.same("marks behind a skip of " + place, x.marks(), 1);
            Check.same("wear behind a skip of " + place, x.wear(place), 0);
            Check.same("cell behind a skip of " + place, x.cell(), 1);
            Check.same("column behind a skip of " + place, x.column(), place < 20 ? 4 : 2);
            Check.same("rest behind a skip of " + place, x.rest(), place < 20 ? 123 : 113);
        }
    }

    /** "by a tenth of the wear ahead of it, cut, 3 at most of that". */
    private static void wornSides() {
        TypebarWorks x = Machines.withBars();
        for (int worn = 0; worn < 60; worn++) {
            x.strike(20, 50);
            Check.same("side by the wear " + worn, x.mark(worn, 'x'), Math.min(3, worn / 10));
        }
        for (int more = 0; more < 50; more++) {
            x.strike(20, 50);
        }
        x.page();
        x.strike(20, 50);
        Check.same("side by the wear 110", x.mark(0, 'x'), 3);
        x.solder(20);
        x.strike(20, 50);
        Check.same("side of a soldered one", x.mark(1, 'x'), 0);
    }

    /** "to the side by what the slug is, and by a tenth of the wear": from -3 to 6. */
    private static void sidesTogether() {
        for (int side = -3; side <= 3; side++) {
            TypebarWorks x = Machines.withBars();
            x.align(20, 0, side, 0);
            for (int worn = 0; worn <= 40; worn++) {
                x.strike(20, 50);
                Check.same("side of " + side + " by " + worn, x.mark(worn, 'x'), side + Math.min(3, worn / 10));
            }
            Check.same("true with " + side, x.isTrue(), true);
        }
    }

    /** "A page has at most 60 marks; as there are so many, a print leaves none, with all else as ever". */
    private static void fullPage() {
        TypebarWorks x = Machines.withBars();
        for (int print = 1; print <= 63; print++) {
            Check.letter("print " + print, x.strike(0, 50), 'p');
            Check.same("marks behind " + print, x.marks(), Math.min(60, print));
            Check.same("wear behind " + print, x.wear(0), print);
            Check.same("column behind " + print, x.column(), 2 * print);
            Check.same("rest behind " + print, x.rest(), 5);
            Check.same("share behind " + print, Float.floatToIntBits(x.printShare()), Float.floatToIntBits(1.0f));
        }
        Check.same("ribbon", x.cell(), 80 - 1 - 63);
        Check.same("the last mark", x.mark(59, 'c'), 118);
        Check.letter("not home", x.strike(0, 7), 'b');
        Check.letter("a clash with the one that left none", x.strike(20, 0), 'p');
        Check.same("marks of the page", x.page(), 60);
        x.strike(0, 50);
        Check.same("the first of the next one", x.marks(), 1);
    }

    /** On a full page a stroke is what it is elsewhere: skips, clashes and jams. */
    private static void fullPageOfSkips() {
        TypebarWorks x = Machines.withBars();
        for (int print = 1; print <= 60; print++) {
            x.strike(20, 50);
        }
        x.carriage(99, 1);
        x.margins(0, 199, 30);
        Machines.goUpTo(x, 167);
        Check.letter("a print", x.strike(0, 50), 'p');
        Check.same("the bell", x.rings(), 1);
        x.margins(0, 199, 29);
        Check.letter("a skip", x.strike(5, 10), 's');
        Check.same("the bell by a skip", x.rings(), 2);
        Check.letter("a clash", x.strike(0, 0), 'c');
        Check.letter("jammed", x.strike(0, 0), 'j');
        Check.same("marks", x.marks(), 60);
        Check.same("column", x.column(), 171);
        Check.same("true", x.isTrue(), true);
    }
}
