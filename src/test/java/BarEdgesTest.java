/** The edges of the paragraph "Bars": each test has the sentence that it is for. */
public final class BarEdgesTest {
    private static final String INDEX = "IndexOutOfBoundsException";
    private static final String ARGUMENT = "IllegalArgumentException";
    private static final String UNSUPPORTED = "UnsupportedOperationException";
    private static final String NONE = "NoSuchElementException";

    public static void main(String[] args) {
        places();
        emptyPlaces();
        moving();
        signs();
        slugs();
        slugAtFirst();
        speeds();
        speedAtFirst();
        wear();
        wearOfOthers();
        takesThePlace();
        Check.end();
    }

    /** "The places 0 to 19 are for plain bars, 20 to 23 for dead ones". */
    private static void places() {
        TypebarWorks x = new TypebarWorks();
        for (int place = -3; place <= 27; place++) {
            putAt(x, place);
        }
        for (int place : Machines.FAR_OFF) {
            putAt(x, place);
        }
    }

    private static void putAt(TypebarWorks x, int place) {
        boolean isPlace = place >= 0 && place <= 23;
        Machines.allows("bar at " + place, x, isPlace && place <= 19, isPlace ? UNSUPPORTED : INDEX,
                y -> y.bar(place, 'a', 'A'));
        Machines.allows("dead at " + place, x, isPlace && place >= 20, isPlace ? UNSUPPORTED : INDEX,
                y -> y.dead(place, 'a', 'A'));
        Machines.allows("align at " + place, x, isPlace, INDEX, y -> y.align(place, 0, 0, 0));
        Machines.allows("solder at " + place, x, isPlace, INDEX, y -> y.solder(place));
        Machines.allows("speed at " + place, x, isPlace, INDEX, y -> y.speed(place, 4, 4));
        Machines.allows("wear at " + place, x, isPlace, INDEX, y -> y.wear(place));
    }

    /** A place at which no bar was put is empty, whatever stands at the places beside it. */
    private static void emptyPlaces() {
        for (int place = 0; place < 24; place++) {
            int at = place;
            TypebarWorks x = new TypebarWorks();
            for (int other = 0; other < 24; other++) {
                if (other < 20 && other != at) {
                    x.bar(other, 'a', 'A');
                } else if (other != at) {
                    x.dead(other, 'a', 'A');
                }
            }
            Machines.allows("align at the empty " + at, x, false, NONE, y -> y.align(at, 0, 0, 0));
            Machines.allows("solder at the empty " + at, x, false, NONE, y -> y.solder(at));
            Machines.allows("speed at the empty " + at, x, false, NONE, y -> y.speed(at, 4, 4));
            Machines.allows("wear at the empty " + at, x, false, NONE, y -> y.wear(at));
            Machines.allows("strike at the empty " + at, x, false, NONE, y -> y.strike(at, 0));
        }
    }

    /** "20 to 23 for dead ones, which print without moving the carriage". */
    private static void moving() {
        for (int place = 0; place < 24; place++) {
            TypebarWorks x = new TypebarWorks();
            boolean isPlain = place < 20;
            if (isPlain) {
                x.bar(place, 'a', 'A');
            } else {
                x.dead(place, 'a', 'A');
            }
            Check.letter("prints at " + place, x.strike(place, 0), 'p');
            Check.same("one mark of " + place, x.marks(), 1);
            Check.same("carriage behind " + place, x.column(), isPlain ? 2 : 0);
            Check.same("rest behind " + place, x.rest(), isPlain ? 7 : 0);
        }
    }

    /** "a lower and an upper one, codes of 33 to 126". */
    private static void signs() {
        for (int code = 0; code <= 300; code++) {
            signOf((char) code);
        }
        signOf((char) (256 + 'a'));
        signOf((char) 0x7fff);
        signOf((char) 0x8000);
        signOf((char) 0xffff);
    }

    private static void signOf(char sign) {
        boolean isSign = sign >= 33 && sign <= 126;
        String what = "the code " + (int) sign;
        TypebarWorks x = new TypebarWorks();
        Machines.allows(what + " lower", x, isSign, ARGUMENT, y -> y.bar(0, sign, 'A'));
        Machines.allows(what + " upper", x, isSign, ARGUMENT, y -> y.bar(1, 'a', sign));
        Machines.allows(what + " lower, dead", x, isSign, ARGUMENT, y -> y.dead(20, sign, 'A'));
        Machines.allows(what + " upper, dead", x, isSign, ARGUMENT, y -> y.dead(21, 'a', sign));
        if (isSign) {
            x.strike(0, 50);
            x.strike(20, 50);
            x.shift(true);
            x.strike(1, 50);
            x.strike(21, 50);
            for (int index = 0; index < 4; index++) {
                Check.same(what + " in the mark " + index, x.mark(index, 's'), sign);
            }
        }
    }

    /** "its slug is up, to the side, and twisted by -3 to 3 each". */
    private static void slugs() {
        for (int number = -6; number <= 6; number++) {
            slugOf(number);
        }
        for (int number : Machines.FAR_OFF) {
            slugOf(number);
        }
    }

    private static void slugOf(int number) {
        boolean isThere = number >= -3 && number <= 3;
        TypebarWorks x = Machines.withBars();
        Machines.allows("up by " + number, x, isThere, ARGUMENT, y -> y.align(20, number, 1, 2));
        x.strike(20, 50);
        Machines.allows("to the side by " + number, x, isThere, ARGUMENT, y -> y.align(20, 1, number, 2));
        x.strike(20, 50);
        Machines.allows("twisted by " + number, x, isThere, ARGUMENT, y -> y.align(20, 1, 2, number));
        x.strike(20, 50);
        Check.same("mark up by " + number, x.mark(0, 'u'), isThere ? number : 0);
        Check.same("mark to the side by " + number, x.mark(1, 'x'), isThere ? number : 0);
        Check.same("mark twisted by " + number, x.mark(2, 't'), isThere ? number : 0);
        Check.same("up before " + number, x.align(20, -1, 0, 0), isThere ? 1 : 0);
    }

    /** "0 at first": of a new bar, of one that takes another's place, and of one that was soldered. */
    private static void slugAtFirst() {
        TypebarWorks x = Machines.withBars();
        x.strike(20, 50);
        x.align(20, 3, 3, 3);
        x.dead(20, '^', '~');
        x.strike(20, 50);
        x.align(20, -3, -3, -3);
        x.solder(20);
        x.strike(20, 50);
        for (int index = 0; index < 3; index++) {
            Check.same("up at first in " + index, x.mark(index, 'u'), 0);
            Check.same("to the side at first in " + index, x.mark(index, 'x'), 0);
            Check.same("twisted at first in " + index, x.mark(index, 't'), 0);
        }
        Check.same("up before", x.align(20, 1, 1, 1), 0);
    }

    /** "it rises in 2 to 9 ticks, and falls in 2 to 9". */
    private static void speeds() {
        for (int rise = 0; rise <= 11; rise++) {
            for (int fall = 0; fall <= 11; fall++) {
                speedOf(rise, fall);
            }
        }
        for (int number : Machines.FAR_OFF) {
            speedOf(number, 4);
            speedOf(4, number);
        }
    }

    private static void speedOf(int rise, int fall) {
        String what = "speed of " + rise + " and " + fall;
        boolean isThere = rise >= 2 && rise <= 9 && fall >= 2 && fall <= 9;
        int rises = isThere ? rise : 4;
        int falls = isThere ? fall : 4;
        TypebarWorks x = Machines.withBars();
        Machines.allows(what, x, isThere, ARGUMENT, y -> y.speed(0, rise, fall));
        Check.letter(what + " prints", x.strike(0, 10), 'p');
        Check.same(what + " rest", x.rest(), rises + 1);
        Check.letter(what + " not home yet", x.strike(0, rises + falls - 1), 'b');
        Check.letter(what + " home", x.strike(0, 1), 'p');
        Check.same(what + " rises then", x.speed(0, 5, 5), rises);
    }

    /** "4 at first", both of them. */
    private static void speedAtFirst() {
        TypebarWorks x = Machines.withBars();
        x.speed(5, 9, 9);
        x.bar(5, 'c', 'C');
        x.strike(5, 0);
        Check.same("rises in 4", x.rest(), 4 + 1);
        Check.letter("falls in 4, not home", x.strike(5, 7), 'b');
        Check.letter("falls in 4, home", x.strike(5, 1), 'p');
        Check.same("rises in 4 of a dead one", x.speed(20, 4, 4), 4);
    }

    /** "it has worn by how often it printed since it was soldered last, or put". */
    private static void wear() {
        TypebarWorks x = Machines.withBars();
        Check.same("wear when put", x.wear(20), 0);
        for (int index = 1; index <= 65; index++) {
            x.strike(20, 50);
            Check.same("wear behind " + index, x.wear(20), index);
        }
        Check.same("a full page", x.marks(), 60);
        Check.same("wear ahead of soldering", x.solder(20), 65);
        Check.same("wear when soldered", x.wear(20), 0);
        Check.same("soldered again", x.solder(20), 0);
        x.strike(20, 50);
        Check.same("wear since then", x.wear(20), 1);
        x.dead(20, '^', '~');
        Check.same("wear when put anew", x.wear(20), 0);
    }

    /** Only what printed wears: not 's', 'c', 'j', 'b', 'm', and not the bars beside. */
    private static void wearOfOthers() {
        TypebarWorks x = Machines.withBars();
        x.carriage(99, 1);
        x.strike(0, 50);
        Check.letter("not home", x.strike(0, 1), 'b');
        Check.letter("a skip", x.strike(5, 20), 's');
        Check.letter("a clash", x.strike(0, 0), 'c');
        Check.letter("jammed", x.strike(0, 50), 'j');
        x.free();
        x.margins(0, 1, 0);
        Check.letter("locked", x.strike(0, 50), 'm');
        int[] due = {1, 0, 0, 0, 0, 0};
        int[] places = {0, 1, 5, 19, 20, 23};
        for (int index = 0; index < places.length; index++) {
            Check.same("wear of " + places[index], x.wear(places[index]), due[index]);
        }
    }

    /** "A bar that is put at a place takes that of another one". */
    private static void takesThePlace() {
        TypebarWorks x = new TypebarWorks();
        for (int place = 0; place < 24; place++) {
            boolean isPlain = place < 20;
            Check.same("first at " + place, isPlain ? x.bar(place, 'a', 'A') : x.dead(place, 'a', 'A'), false);
            Check.same("second at " + place, isPlain ? x.bar(place, 'b', 'B') : x.dead(place, 'b', 'B'), true);
            Check.same("third at " + place, isPlain ? x.bar(place, 'b', 'B') : x.dead(place, 'b', 'B'), true);
            x.free();
            x.page();
            x.strike(place, 50);
            Check.same("the later sign at " + place, x.mark(0, 's'), 'b');
        }
    }
}
