/** The edges of "Reading a page", "Samples", and of the promises 33 to 44: each test has its sentence. */
public final class PageEdgesTest {
    private static final String INDEX = "IndexOutOfBoundsException";
    private static final String ARGUMENT = "IllegalArgumentException";
    private static final String STATE = "IllegalStateException";
    private static final String NONE = "NoSuchElementException";
    private static final String ARITHMETIC = "ArithmeticException";

    public static void main(String[] args) {
        markIndices();
        markThings();
        marksInOrder();
        pitchOfFew();
        pitches();
        pitchOfSixths();
        typicalUp();
        typicalSide();
        causeWithoutSign();
        causeOfNothing();
        causeOfTheBar();
        causeOfTheLevel();
        causeOfOtherUppers();
        causeByTheLowestPlace();
        samples();
        sampleNumbers();
        likenesses();
        likenessWithout();
        whoseWithout();
        whoseOfSeveral();
        shares();
        meanWears();
        sums();
        sumOfAFullPage();
        truths();
        Check.end();
    }

    /** Prints with the dead bar at 20, or at 23, with the slug up and to the side by these. */
    private static void print(TypebarWorks x, int place, boolean upper, int up, int side) {
        x.shift(upper);
        x.align(place, up, side, 0);
        Check.letter("a print of " + place, x.strike(place, 50), 'p');
    }

    /** "if there is no such mark": below 0, at the number of marks; of 0, 1, 59, 60 and more. */
    private static void markIndices() {
        TypebarWorks x = Machines.withBars();
        for (int count = 0; count <= 62; count++) {
            int marks = Math.min(60, count);
            Machines.allows("mark -1 of " + marks, x, false, INDEX, y -> y.mark(-1, 's'));
            Machines.allows("mark " + marks + " of it", x, false, INDEX, y -> y.mark(marks, 's'));
            if (marks > 0) {
                Check.same("mark 0 of " + marks, x.mark(0, 's'), '^');
                Check.same("last mark of " + marks, x.mark(marks - 1, 's'), '^');
            }
            x.strike(20, 50);
        }
        for (int index : Machines.FAR_OFF) {
            Machines.allows("mark " + index, x, false, INDEX, y -> y.mark(index, 's'));
        }
        x.page();
        Machines.allows("mark 0 of a new page", x, false, INDEX, y -> y.mark(0, 's'));
    }

    /** "'r' its sixth, 'c' ..., 's' ..., 'u' ..., 'x' ..., 't' ..., 'i' ..., 'k' ...": no other letter. */
    private static void markThings() {
        TypebarWorks x = Machines.rolledTo(399);
        Machines.goUpTo(x, 199);
        x.align(20, 3, -2, -3);
        x.strike(20, 50);
        String things = "rcsuxtik";
        int[] due = {399, 199, '^', 3, -2, -3, 9, 'k'};
        for (int code = 0; code <= 300; code++) {
            char what = (char) code;
            int at = things.indexOf(what);
            Machines.allows("thing " + code, x, at >= 0, ARGUMENT, y -> y.mark(0, what));
            if (at >= 0) {
                Check.same("thing " + what, x.mark(0, what), due[at]);
            }
        }
        Machines.allows("a thing far off", x, false, ARGUMENT, y -> y.mark(0, (char) (256 + 's')));
    }

    /** "Marks are in the order in which they came", whatever their places. */
    private static void marksInOrder() {
        TypebarWorks x = Machines.rolledTo(20);
        Machines.goUpTo(x, 20);
        for (int index = 0; index < 10; index++) {
            x.strike(20, 50);
            x.roll(-1);
            x.back();
        }
        for (int index = 0; index < 10; index++) {
            Check.same("sixth of " + index, x.mark(index, 'r'), 20 - 2 * index);
            Check.same("half step of " + index, x.mark(index, 'c'), 20 - 2 * index);
        }
    }

    /** "if there is no difference above 0": no mark, one, several at one place, several in several sixths. */
    private static void pitchOfFew() {
        TypebarWorks x = Machines.withBars();
        Machines.allows("no mark", x, false, NONE, TypebarWorks::pitch);
        x.strike(20, 50);
        Machines.allows("one mark", x, false, NONE, TypebarWorks::pitch);
        x.strike(20, 50);
        x.strike(20, 50);
        Machines.allows("marks at one place", x, false, NONE, TypebarWorks::pitch);
        x.half();
        x.roll(1);
        x.strike(20, 50);
        Machines.allows("marks in two sixths", x, false, NONE, TypebarWorks::pitch);
        x.half();
        x.strike(20, 50);
        Check.same("a difference of 1", x.pitch(), 1);
        x.page();
        Machines.allows("a new page", x, false, NONE, TypebarWorks::pitch);
    }

    /** "the greatest number of half steps that divides all differences": from 1 to 199. */
    private static void pitches() {
        int[][] due = {{0, 1, 1}, {0, 199, 199}, {198, 199, 1}, {0, 198, 198}, {3, 9, 6}};
        for (int[] row : due) {
            TypebarWorks x = Machines.at(row[0]);
            x.strike(20, 50);
            Machines.goUpTo(x, row[1]);
            x.strike(20, 50);
            Check.same("pitch of " + row[0] + " and " + row[1], x.pitch(), row[2]);
        }
        TypebarWorks y = Machines.at(12);
        y.strike(20, 50);
        Machines.goUpTo(y, 30);
        y.strike(20, 50);
        Check.same("18", y.pitch(), 18);
        for (int step = 0; step < 15; step++) {
            y.back();
        }
        y.strike(20, 50);
        Check.same("18 and 12", y.pitch(), 6);
        Machines.goUpTo(y, 9);
        y.strike(20, 50);
        Check.same("18, 12 and 9", y.pitch(), 3);
    }

    /** "of the places of marks in one sixth": of each one by itself, the last sixth and the first too. */
    private static void pitchOfSixths() {
        TypebarWorks x = Machines.withBars();
        x.strike(20, 50);
        Machines.goUpTo(x, 12);
        x.strike(20, 50);
        Check.same("12 in the sixth 0", x.pitch(), 12);
        x.lines(3);
        x.home();
        for (int index = 0; index < 6; index++) {
            x.roll(30);
        }
        Check.same("the last sixth", x.roll(15), 399);
        x.half();
        x.strike(20, 50);
        Check.same("one mark in the last sixth", x.pitch(), 12);
        Machines.goUpTo(x, 31);
        x.strike(20, 50);
        Check.same("30 there", x.pitch(), 6);
        Machines.goUpTo(x, 32);
        x.roll(-1);
        x.strike(20, 50);
        Check.same("one in another", x.pitch(), 6);
    }

    /** "the number by which most of its marks are up", "of as many the least one each time". */
    private static void typicalUp() {
        TypebarWorks x = Machines.withBars();
        print(x, 20, false, 3, 0);
        Check.letter("one mark", x.cause('^'), 's');
        print(x, 20, false, 0, 0);
        Check.letter("one of each, the least is 0", x.cause('^'), '-');
        print(x, 20, false, -1, 0);
        Check.letter("one of each, the least is below 0", x.cause('^'), 's');
        print(x, 20, false, 0, 0);
        Check.letter("two of 0", x.cause('^'), '-');
        print(x, 20, false, 3, 0);
        Check.letter("two of 0 and of 3", x.cause('^'), '-');
        print(x, 20, false, 3, 0);
        Check.letter("three of 3", x.cause('^'), 's');
        print(x, 20, false, 0, 0);
        Check.letter("three of both", x.cause('^'), '-');
        print(x, 20, false, -3, 0);
        print(x, 20, false, -3, 0);
        Check.letter("two of the least", x.cause('^'), '-');
        print(x, 20, false, -3, 0);
        Check.letter("three of the least", x.cause('^'), 's');
    }

    /** "and, by itself, the number by which most are to the side". */
    private static void typicalSide() {
        TypebarWorks x = Machines.withBars();
        print(x, 20, false, 0, 3);
        print(x, 20, false, 2, 0);
        Check.letter("each of them 0 by itself", x.cause('^'), '-');
        print(x, 20, false, 0, -3);
        Check.letter("the least side", x.cause('^'), 's');
        print(x, 20, false, 2, 0);
        Check.letter("two up by both, two of the side 0", x.cause('^'), '-');
        print(x, 20, false, 2, 0);
        Check.letter("most are up by 2", x.cause('^'), 's');
        TypebarWorks y = Machines.withBars();
        for (int index = 0; index < 10; index++) {
            print(y, 20, false, 0, 3);
        }
        for (int index = 0; index < 8; index++) {
            print(y, 20, false, 0, -1);
        }
        Check.letter("8 of 0 by wear, 10 of 3", y.cause('^'), 's');
        print(y, 20, false, 0, -1);
        print(y, 20, false, 0, -2);
        Check.letter("9 of 0, 10 of 3", y.cause('^'), 's');
        print(y, 20, false, 0, -2);
        Check.letter("10 of both", y.cause('^'), '-');
    }

    /** "if it is not on the page, or no bar has it". */
    private static void causeWithoutSign() {
        TypebarWorks x = Machines.withBars();
        Machines.allows("an empty page", x, false, NONE, y -> y.cause('^'));
        print(x, 20, false, 0, 0);
        for (int code = 0; code <= 260; code++) {
            char sign = (char) code;
            Machines.allows("the sign " + code, x, sign == '^', NONE, y -> y.cause(sign));
        }
        Machines.allows("a sign far off", x, false, NONE, y -> y.cause((char) 0xffff));
        Machines.allows("a sign of other bits", x, false, NONE, y -> y.cause((char) (256 + '^')));
        x.dead(20, '(', ')');
        Machines.allows("no bar has it", x, false, NONE, y -> y.cause('^'));
        Machines.allows("not on the page", x, false, NONE, y -> y.cause('('));
        x.bar(19, '(', '^');
        Machines.allows("another bar has it", x, true, NONE, y -> y.cause('^'));
        x.page();
        Machines.allows("a new page", x, false, NONE, y -> y.cause('^'));
    }

    /** "'-' both are 0": ahead of all others. */
    private static void causeOfNothing() {
        TypebarWorks x = Machines.withBars();
        print(x, 20, false, 0, 0);
        print(x, 20, true, 0, 0);
        Check.letter("ahead of 'b', lower", x.cause('^'), '-');
        Check.letter("ahead of 'b' and 'l', upper", x.cause('~'), '-');
        int[][] others = {{1, 0}, {-1, 0}, {0, 1}, {0, -1}, {3, 3}, {-3, -3}};
        for (int[] other : others) {
            TypebarWorks y = Machines.withBars();
            print(y, 20, false, other[0], other[1]);
            Check.letter("up " + other[0] + ", side " + other[1], y.cause('^'), 's');
        }
    }

    /** "'b' both signs of a bar that has it are on the page, with the same typical numbers". */
    private static void causeOfTheBar() {
        int[][] seconds = {{1, 2}, {1, 1}, {1, 3}, {0, 2}, {2, 2}};
        for (int[] second : seconds) {
            TypebarWorks x = Machines.withBars();
            print(x, 20, false, 1, 2);
            Check.letter("one alone", x.cause('^'), 's');
            print(x, 20, true, second[0], second[1]);
            boolean areSame = second[0] == 1 && second[1] == 2;
            Check.letter("lower with " + second[0] + ", " + second[1], x.cause('^'), areSame ? 'b' : 's');
            Check.letter("upper with " + second[0] + ", " + second[1], x.cause('~'), areSame ? 'b' : 's');
        }
        TypebarWorks y = Machines.withBars();
        print(y, 20, false, 1, 0);
        print(y, 20, true, 1, 0);
        Check.letter("ahead of 'l'", y.cause('~'), 'b');
    }

    /** "'l' it is an upper sign, is typically 0 to the side". */
    private static void causeOfTheLevel() {
        for (int side = -3; side <= 3; side++) {
            for (int up = -6; up <= 6; up++) {
                TypebarWorks x = Machines.withBars();
                x.level(up / 2);
                print(x, 20, true, up - up / 2, side);
                char due = side != 0 ? 's' : up != 0 ? 'l' : '-';
                Check.letter("upper up " + up + ", side " + side, x.cause('~'), due);
            }
        }
        TypebarWorks y = Machines.withBars();
        print(y, 20, false, 1, 0);
        Check.letter("a lower one", y.cause('^'), 's');
        y.dead(20, '^', '^');
        Check.letter("an upper one that is the lower one, too", y.cause('^'), 'b');
    }

    /** "and all upper signs on the page are typically up by the same". */
    private static void causeOfOtherUppers() {
        for (int up = -3; up <= 3; up++) {
            TypebarWorks x = Machines.withBars();
            print(x, 20, true, 1, 0);
            print(x, 23, true, up, 3);
            print(x, 23, false, 2, 2);
            Check.letter("another upper one up by " + up, x.cause('~'), up == 1 ? 'l' : 's');
        }
        TypebarWorks y = Machines.withBars();
        print(y, 20, true, 1, 0);
        print(y, 23, true, 2, 0);
        Check.letter("another one is up by 2", y.cause('~'), 's');
        y.dead(23, '"', '/');
        Check.letter("no bar has that one then", y.cause('~'), 'l');
        y.dead(23, '`', '"');
        Check.letter("it is a lower one then", y.cause('~'), 'l');
        y.dead(23, '`', '`');
        Check.letter("it is both then", y.cause('~'), 'l');
        y.dead(22, '"', '`');
        Check.letter("it is an upper one by a lower place", y.cause('~'), 's');
    }

    /** "looked at by the bar with the lowest place that has it": the places 0 and 23 too. */
    private static void causeByTheLowestPlace() {
        TypebarWorks x = Machines.withBars();
        x.dead(23, '~', '^');
        print(x, 20, true, 1, 0);
        Check.letter("upper by 20, lower by 23", x.cause('~'), 'l');
        x.bar(0, '~', 'z');
        Check.letter("lower by 0", x.cause('~'), 's');
        x.bar(0, 'z', '~');
        Check.letter("upper by 0", x.cause('~'), 'l');
        x.bar(0, 'a', 'A');
        x.dead(20, '(', ')');
        Check.letter("lower by 23", x.cause('~'), 's');
        print(x, 23, true, 1, 0);
        Check.letter("both of 23", x.cause('~'), 'b');
        x.dead(22, '(', '~');
        Check.letter("upper by 22, with one up alone", x.cause('~'), 'l');
    }

    /** "At most 4 pages are kept": the fifth is refused, ever. */
    private static void samples() {
        TypebarWorks x = Machines.withBars();
        for (int number = 0; number < 4; number++) {
            Check.same("sample " + number, x.sample(), number);
        }
        for (int more = 0; more < 3; more++) {
            Machines.allows("a fifth one", x, false, STATE, TypebarWorks::sample);
        }
        x.page();
        Machines.allows("nor of a new page", x, false, STATE, TypebarWorks::sample);
    }

    /** "if there is no such sample": below 0, and at their number, 0 to 4. */
    private static void sampleNumbers() {
        TypebarWorks x = Machines.withBars();
        print(x, 20, false, 1, 0);
        for (int count = 0; count <= 4; count++) {
            for (int number = -2; number <= 6; number++) {
                int at = number;
                boolean isThere = at >= 0 && at < count;
                Machines.allows("sample " + at + " of " + count, x, isThere, INDEX, y -> y.likenessBits(at));
                if (isThere) {
                    Check.same("sample " + at + " of " + count, x.likenessBits(at), Float.floatToIntBits(1.0f));
                }
            }
            Machines.thrownBy(x, TypebarWorks::sample);
        }
        for (int number : Machines.FAR_OFF) {
            Machines.allows("sample " + number, x, false, INDEX, y -> y.likenessBits(number));
        }
    }

    /** "the number of signs that are on it and on the page, with the same typical numbers, divided by ...". */
    private static void likenesses() {
        TypebarWorks x = Machines.withBars();
        print(x, 20, false, 1, 2);
        print(x, 20, true, 0, 0);
        print(x, 23, false, -3, -3);
        x.sample();
        x.page();
        print(x, 23, true, 0, 0);
        likeness("none on both", x, 0.0f);
        print(x, 20, false, 1, 1);
        likeness("another side", x, 0.0f);
        print(x, 23, false, -3, -3);
        likeness("one of two", x, 0.5f);
        print(x, 20, true, 0, 0);
        likeness("two of three", x, 2.0f / 3.0f);
        print(x, 20, false, 1, 2);
        likeness("the least of two is another", x, 2.0f / 3.0f);
        print(x, 20, false, 1, 2);
        likeness("all of three", x, 1.0f);
        print(x, 23, false, 3, -3);
        print(x, 23, false, 3, -3);
        likeness("another up", x, 2.0f / 3.0f);
    }

    private static void likeness(String what, TypebarWorks x, float due) {
        Check.same(what, x.likenessBits(0), Float.floatToIntBits(due));
    }

    /** "0.0 without such": an empty sample, an empty page, both empty, no sign on both. */
    private static void likenessWithout() {
        TypebarWorks x = Machines.withBars();
        x.sample();
        likeness("both empty", x, 0.0f);
        print(x, 20, false, 0, 0);
        likeness("an empty sample", x, 0.0f);
        TypebarWorks y = Machines.withBars();
        print(y, 20, false, 0, 0);
        y.sample();
        likeness("a full one", y, 1.0f);
        y.page();
        likeness("an empty page", y, 0.0f);
        print(y, 20, true, 0, 0);
        likeness("no sign on both", y, 0.0f);
    }

    /** "if there is none with a likeness above 0.0". */
    private static void whoseWithout() {
        TypebarWorks x = Machines.withBars();
        Machines.allows("no sample", x, false, NONE, TypebarWorks::whose);
        print(x, 20, false, 1, 0);
        Machines.allows("no sample, but a mark", x, false, NONE, TypebarWorks::whose);
        x.page();
        x.sample();
        Machines.allows("an empty one", x, false, NONE, TypebarWorks::whose);
        print(x, 20, false, 2, 0);
        x.sample();
        x.page();
        Machines.allows("an empty page", x, false, NONE, TypebarWorks::whose);
        print(x, 20, false, 1, 0);
        Machines.allows("both of 0.0", x, false, NONE, TypebarWorks::whose);
        print(x, 20, false, 2, 0);
        Machines.allows("the least of both", x, false, NONE, TypebarWorks::whose);
        print(x, 20, false, 2, 0);
        Check.same("the one above 0.0", x.whose(), 1);
    }

    /** "or several are most alike": the first and the last of 4, and all of them. */
    private static void whoseOfSeveral() {
        for (int most = 0; most < 4; most++) {
            TypebarWorks x = Machines.withBars();
            for (int number = 0; number < 4; number++) {
                print(x, 20, false, number == most ? 1 : 2, 0);
                print(x, 23, false, 1, 0);
                x.sample();
                x.page();
            }
            print(x, 23, false, 1, 0);
            Machines.allows("all of 1.0 beside " + most, x, false, NONE, TypebarWorks::whose);
            print(x, 20, false, 1, 0);
            Check.same("the only one of 1.0", x.whose(), most);
            print(x, 20, false, 2, 0);
            print(x, 20, false, 2, 0);
            Machines.allows("three of 1.0 beside " + most, x, false, NONE, TypebarWorks::whose);
        }
        TypebarWorks y = Machines.withBars();
        print(y, 20, false, 1, 0);
        y.sample();
        print(y, 23, false, 1, 0);
        y.sample();
        y.align(23, 0, 0, 0);
        Machines.allows("1.0 by one and by two signs", y, false, NONE, TypebarWorks::whose);
        print(y, 23, false, 2, 0);
        print(y, 23, false, 2, 0);
        Check.same("1.0 ahead of 0.5", y.whose(), 0);
    }

    /** "all strokes that were not refused": none, 0.0 of one, 1.0 of one; "if there were none". */
    private static void shares() {
        TypebarWorks x = Machines.withBars();
        Machines.allows("none", x, false, ARITHMETIC, TypebarWorks::printShare);
        Machines.allows("refused", x, false, NONE, y -> y.strike(21, 50));
        Machines.allows("refused, too", x, false, ARGUMENT, y -> y.strike(20, 100));
        Machines.allows("refused, too", x, false, INDEX, y -> y.strike(24, 50));
        Machines.allows("none but refused ones", x, false, ARITHMETIC, TypebarWorks::printShare);
        Machines.goUpTo(x, 199);
        x.release();
        Machines.allows("above 199", x, false, "UnsupportedOperationException", y -> y.strike(0, 50));
        Machines.allows("none but that", x, false, ARITHMETIC, TypebarWorks::printShare);
        TypebarWorks y = Machines.at(199);
        Check.letter("locked", y.strike(0, 50), 'm');
        Check.same("0 of 1", Float.floatToIntBits(y.printShare()), 0);
        Check.letter("prints", y.strike(20, 50), 'p');
        Check.same("1 of 2", Float.floatToIntBits(y.printShare()), Float.floatToIntBits(0.5f));
        Check.letter("prints", y.strike(23, 50), 'p');
        Check.same("2 of 3", Float.floatToIntBits(y.printShare()), Float.floatToIntBits(2.0f / 3.0f));
        y.page();
        Check.same("of all pages", Float.floatToIntBits(y.printShare()), Float.floatToIntBits(2.0f / 3.0f));
    }

    /** "the sum divided by their number"; "if there are none": of 0, 1 and 24 bars. */
    private static void meanWears() {
        TypebarWorks x = new TypebarWorks();
        Machines.allows("none", x, false, ARITHMETIC, TypebarWorks::meanWearBits);
        for (int place = 23; place >= 0; place--) {
            if (place >= 20) {
                x.dead(place, '^', '~');
            } else {
                x.bar(place, 'a', 'A');
            }
            if (place == 23) {
                Check.same("no wear", x.meanWearBits(), 0L);
            }
            x.strike(23, 50);
            double due = (double) (24 - place) / (double) (24 - place);
            Check.same("mean of " + (24 - place), x.meanWearBits(), Double.doubleToLongBits(due));
        }
        for (int print = 25; print <= 40; print++) {
            x.strike(0, 50);
            Check.same("mean of 24 behind " + print, x.meanWearBits(), Double.doubleToLongBits(print / 24.0));
        }
    }

    /** "Returns 7 at first": of a machine without bars and marks, at 0; then by each of these alone. */
    private static void sums() {
        Check.same("nothing", new TypebarWorks().checksum(), 7L * 31 * 31);
        TypebarWorks x = new TypebarWorks();
        Machines.goUpTo(x, 199);
        Check.same("the carriage at 199", x.checksum(), (7L * 31 + 199) * 31);
        TypebarWorks y = new TypebarWorks();
        long due = 7;
        for (int place = 0; place < 20; place++) {
            y.bar(place, 'a', 'A');
            due *= 31;
        }
        for (int place = 20; place < 24; place++) {
            y.dead(place, 'a', 'A');
            due *= 31;
        }
        Check.same("bars at all places", y.checksum(), due * 31 * 31);
    }

    /** A full page: the sum of what its marks tell, far beyond the range of a long. */
    private static void sumOfAFullPage() {
        TypebarWorks x = Machines.rolledTo(101);
        x.ribbon(3);
        for (int print = 0; print < 61; print++) {
            x.strike(print % 2 == 0 ? 0 : 20, 50);
        }
        long due = 7;
        for (int index = 0; index < 60; index++) {
            due = 31 * due + x.mark(index, 'r');
            due = 31 * due + x.mark(index, 'c');
            due = 31 * due + x.mark(index, 's');
            due = 31 * due + x.mark(index, 'i');
        }
        int[] worn = {31, 0, 0, 0, 30, 0};
        for (int wear : worn) {
            due = 31 * due + wear;
        }
        due = 31 * due + x.column();
        due = 31 * due + x.cell();
        Check.same("a full page", x.checksum(), due);
        x.page();
        due = 7;
        for (int wear : worn) {
            due = 31 * due + wear;
        }
        Check.same("an empty one", x.checksum(), due * 31 * 31 + x.cell());
    }

    /** "marks are within the page, ... the ink that is gone ..., ... as far to the side as a slug and wear can be". */
    private static void truths() {
        TypebarWorks x = Machines.rolledTo(399);
        Check.same("an empty page", x.isTrue(), true);
        Machines.goUpTo(x, 199);
        x.align(20, 3, 3, 3);
        x.ribbon(2);
        for (int print = 0; print < 62; print++) {
            x.strike(20, 50);
        }
        Check.same("the last sixth and half step, and no ink", x.isTrue(), true);
        Check.same("as far to the side as can be", x.mark(59, 'x'), 6);
        x.solder(20);
        Check.same("soldered since", x.isTrue(), true);
        x.dead(20, '^', '~');
        Check.same("another bar since", x.isTrue(), true);
        x.ribbon(99);
        Check.same("a new ribbon since", x.isTrue(), true);
        x.page();
        x.align(20, -3, -3, -3);
        x.colour('-');
        x.strike(20, 50);
        Check.same("the first sixth and half step, without ink", x.isTrue(), true);
    }
}
