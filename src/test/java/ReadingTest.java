import java.util.NoSuchElementException;

/** Promises 33 to 40: pages, marks, pitches, causes and samples. */
public final class ReadingTest {
    private static final Class<IndexOutOfBoundsException> INDEX = IndexOutOfBoundsException.class;
    private static final Class<IllegalArgumentException> ARGUMENT = IllegalArgumentException.class;
    private static final Class<NoSuchElementException> NONE = NoSuchElementException.class;

    public static void main(String[] args) {
        page();
        fullPage();
        mark();
        pitch();
        pitchBySixths();
        pitchOfThisPage();
        causes();
        causeOfTypical();
        causeByLowestPlace();
        causeOfOneSign();
        causeOfLevel();
        causeAtTheEdges();
        sample();
        likeness();
        likenessAtTheEdges();
        likenessBits();
        whose();
        Check.end();
    }

    private static TypebarWorks withBars() {
        TypebarWorks x = new TypebarWorks();
        x.bar(0, 'a', 'A');
        x.bar(5, 'b', 'B');
        x.bar(9, 'c', 'C');
        x.margins(0, 199, 0);
        return x;
    }

    /** Prints a sign of a bar with the slug up and to the side by these. */
    private static void print(TypebarWorks x, int place, boolean upper, int up, int side) {
        x.shift(upper);
        x.align(place, up, side, 0);
        Check.letter("a print", x.strike(place, 50), 'p');
    }

    private static void page() {
        TypebarWorks x = withBars();
        x.margins(4, 100, 0);
        x.strike(0, 50);
        x.roll(9);
        x.strike(0, 50);
        Check.same("34: marks", x.marks(), 2);
        x.release();
        Check.same("33: marks of the one before", x.page(), 2);
        Check.same("34: none", x.marks(), 0);
        Check.same("33: the left margin", x.column(), 4);
        Check.same("33: the platen", x.roll(0), 0);
        Check.same("33: released no more", x.release(), false);
        Check.same("33: none then", x.page(), 0);
        Check.same("33: wear stays", x.wear(0), 2);
        Check.same("33: the ribbon stays", x.cell(), 2);
        x.strike(0, 50);
        Check.same("33: the first mark anew", x.mark(0, 'c'), 4);
    }

    private static void fullPage() {
        TypebarWorks x = withBars();
        for (int index = 0; index < 60; index++) {
            Check.same("34: marks", x.marks(), index);
            x.strike(0, 50);
        }
        Check.same("34: 60 marks", x.marks(), 60);
        long sum = x.checksum();
        Check.letter("30: prints on a full page", x.strike(0, 50), 'p');
        Check.same("34: none left", x.marks(), 60);
        Check.same("30: wear as ever", x.wear(0), 61);
        Check.same("30: ink as ever", x.ink(19, 'k'), 7);
        Check.same("30: a step as ever", x.column(), 122);
        Check.same("30: another sum", x.checksum() != sum, true);
        Check.same("41: counted", Float.floatToIntBits(x.printShare()), Float.floatToIntBits(1.0f));
        Check.same("44: true", x.isTrue(), true);
        Check.fails("35: no mark 60", INDEX, () -> x.mark(60, 's'));
        Check.same("35: mark 59", x.mark(59, 'c'), 118);
        Check.same("33: 60", x.page(), 60);
    }

    private static void mark() {
        TypebarWorks x = withBars();
        Check.fails("35: none", INDEX, () -> x.mark(0, 's'));
        x.colour('r');
        x.roll(4);
        x.space();
        x.level(-1);
        x.shift(true);
        x.align(5, 3, -2, -3);
        x.strike(5, 50);
        Check.same("35: sixth", x.mark(0, 'r'), 8);
        Check.same("35: half step", x.mark(0, 'c'), 2);
        Check.same("35: sign", x.mark(0, 's'), 'B');
        Check.same("35: up", x.mark(0, 'u'), 2);
        Check.same("35: side", x.mark(0, 'x'), -2);
        Check.same("35: twist", x.mark(0, 't'), -3);
        Check.same("35: strength", x.mark(0, 'i'), 9);
        Check.same("35: colour", x.mark(0, 'k'), 'r');
        Check.fails("35: -1", INDEX, () -> x.mark(-1, 's'));
        Check.fails("35: 1", INDEX, () -> x.mark(1, 'q'));
        Check.fails("35: no such thing", ARGUMENT, () -> x.mark(0, 'q'));
        Check.fails("35: nor this", ARGUMENT, () -> x.mark(0, (char) 0));
    }

    private static void pitch() {
        TypebarWorks x = withBars();
        Check.fails("36: none", NONE, x::pitch);
        x.strike(0, 50);
        Check.fails("36: one", NONE, x::pitch);
        x.back();
        x.strike(5, 50);
        Check.fails("36: no difference", NONE, x::pitch);
        x.space();
        x.space();
        x.strike(0, 50);
        Check.same("36: 6", x.pitch(), 6);
        x.space();
        x.space();
        x.space();
        x.strike(0, 50);
        Check.same("36: 6 and 14", x.pitch(), 2);
        x.half();
        x.strike(0, 50);
        Check.same("36: with a half step", x.pitch(), 1);
    }

    private static void pitchBySixths() {
        TypebarWorks x = withBars();
        x.stop(7, true);
        x.stop(13, true);
        x.stop(16, true);
        x.strike(0, 50);
        x.roll(1);
        x.tab();
        x.strike(0, 50);
        Check.fails("36: in other sixths", NONE, x::pitch);
        x.tab();
        x.strike(0, 50);
        Check.same("36: from 7 to 13", x.pitch(), 6);
        x.roll(-1);
        x.tab();
        x.strike(0, 50);
        Check.same("36: from 0 to 16 too", x.pitch(), 2);
        x.back();
        x.back();
        x.back();
        x.half();
        x.strike(5, 50);
        Check.same("36: all of them", x.pitch(), 1);
    }

    private static void causes() {
        TypebarWorks x = withBars();
        Check.fails("37: an empty page", NONE, () -> x.cause('a'));
        print(x, 0, false, 0, 0);
        Check.letter("37: none", x.cause('a'), '-');
        Check.fails("37: not on the page", NONE, () -> x.cause('A'));
        Check.fails("37: no sign", NONE, () -> x.cause((char) 32));
        Check.fails("37: far off", NONE, () -> x.cause((char) 0xffff));
        Check.fails("37: no bar has it", NONE, () -> x.cause('z'));
        print(x, 5, false, 1, 0);
        Check.letter("37: a lower one alone", x.cause('b'), 's');
        print(x, 5, true, 1, 0);
        Check.letter("37: both, lower", x.cause('b'), 'b');
        Check.letter("37: both, upper", x.cause('B'), 'b');
        print(x, 9, false, 1, 0);
        print(x, 9, true, 1, 1);
        Check.letter("37: of other sides, lower", x.cause('c'), 's');
        Check.letter("37: of other sides, upper", x.cause('C'), 's');
        x.bar(5, 'd', 'D');
        Check.fails("37: its bar is gone", NONE, () -> x.cause('b'));
        Check.letter("37: an upper one no more", x.cause('C'), 's');
        x.bar(5, 'D', 'b');
        Check.letter("37: looked at anew", x.cause('b'), 'l');
    }

    private static void causeOfTypical() {
        TypebarWorks x = withBars();
        print(x, 0, false, 2, 0);
        print(x, 0, false, 2, 1);
        print(x, 0, false, 0, 1);
        Check.letter("37: most up by 2", x.cause('a'), 's');
        print(x, 0, false, 0, 0);
        Check.letter("37: the least of as many", x.cause('a'), '-');
        print(x, 0, false, -1, 0);
        print(x, 0, false, -1, 0);
        Check.letter("37: the least one below 0", x.cause('a'), 's');
        print(x, 0, true, -1, 0);
        Check.letter("37: as the upper one", x.cause('a'), 'b');
        print(x, 0, true, -1, -3);
        Check.letter("37: each by itself", x.cause('a'), 's');
    }

    private static void causeByLowestPlace() {
        TypebarWorks x = withBars();
        x.bar(12, 'x', 'a');
        print(x, 12, true, 1, 0);
        Check.letter("37: 'a' is lower by bar 0", x.cause('a'), 's');
        x.bar(0, 'q', 'Q');
        Check.letter("37: 'a' is upper by bar 12", x.cause('a'), 'l');
        print(x, 12, false, 1, 0);
        Check.letter("37: both of bar 12", x.cause('a'), 'b');
        x.bar(0, 'a', 'A');
        Check.letter("37: by bar 0 again", x.cause('a'), 's');
    }

    private static void causeOfOneSign() {
        TypebarWorks x = new TypebarWorks();
        x.bar(0, 'o', 'o');
        x.dead(23, '^', '~');
        print(x, 0, true, 1, 0);
        Check.letter("37: both are one", x.cause('o'), 'b');
        print(x, 23, true, 2, 0);
        Check.letter("37: it is no upper one", x.cause('~'), 'l');
    }

    private static void causeOfLevel() {
        TypebarWorks x = withBars();
        x.level(2);
        print(x, 0, true, 0, 0);
        Check.letter("37: level", x.cause('A'), 'l');
        print(x, 5, true, 0, 0);
        Check.letter("37: level of both", x.cause('A'), 'l');
        print(x, 9, false, 3, 0);
        Check.letter("37: lower ones don't matter", x.cause('A'), 'l');
        print(x, 9, true, 0, 1);
        Check.letter("37: to the side", x.cause('C'), 's');
        Check.letter("37: that doesn't matter for others", x.cause('A'), 'l');
        print(x, 5, true, 1, 0);
        print(x, 5, true, 1, 0);
        Check.letter("37: up by another number", x.cause('A'), 's');
        Check.letter("37: both ways", x.cause('B'), 's');
    }

    private static void causeAtTheEdges() {
        TypebarWorks x = new TypebarWorks();
        x.dead(20, '!', 'A');
        x.dead(21, '"', '~');
        x.level(-3);
        print(x, 20, true, -3, 0);
        Check.letter("37: the first sign is not there", x.cause('A'), 'l');
        print(x, 21, true, -2, 0);
        Check.letter("37: -6 and, of the last sign, -5", x.cause('A'), 's');
        print(x, 21, true, -3, 0);
        Check.letter("37: -6 both", x.cause('~'), 'l');
        x.level(3);
        x.page();
        print(x, 20, true, 3, 0);
        print(x, 21, true, 3, 0);
        print(x, 21, true, -3, 0);
        print(x, 21, true, 3, 0);
        Check.letter("37: 6 both", x.cause('A'), 'l');
        print(x, 20, false, 0, 0);
        x.page();
        Check.fails("37: the first sign is there no more", NONE, () -> x.cause('!'));
        print(x, 20, false, 1, 0);
        print(x, 20, false, 1, 0);
        x.page();
        print(x, 20, false, 0, 0);
        Check.letter("37: by this page alone", x.cause('!'), '-');
        Check.fails("36: by this page alone", NONE, x::pitch);
        print(x, 20, false, 0, 0);
        x.page();
        print(x, 20, false, 1, 0);
        Check.letter("37: not by a mark of the page before", x.cause('!'), 's');
        x.page();
        print(x, 20, false, 0, 2);
        Check.letter("37: the first sign to the side", x.cause('!'), 's');
    }

    private static void likenessAtTheEdges() {
        TypebarWorks x = new TypebarWorks();
        x.dead(20, '!', '~');
        print(x, 20, false, 0, 0);
        x.sample();
        print(x, 20, true, 1, 0);
        Check.same("39: the first sign", x.likenessBits(0), Float.floatToIntBits(1.0f));
        Check.same("40: the sample 0", x.whose(), 0);
        x.sample();
        x.page();
        print(x, 20, true, 1, 0);
        Check.same("39: the last sign", x.likenessBits(1), Float.floatToIntBits(1.0f));
        Check.same("40: the sample 1", x.whose(), 1);
        print(x, 20, false, 1, 0);
        Check.same("39: the last sign alone", x.likenessBits(1), Float.floatToIntBits(0.5f));
        Check.same("39: not the first one", x.likenessBits(0), 0);
    }

    private static void pitchOfThisPage() {
        TypebarWorks x = withBars();
        x.strike(0, 50);
        x.half();
        x.strike(0, 50);
        Check.same("36: 3", x.pitch(), 3);
        x.page();
        x.strike(0, 50);
        Check.fails("36: a new page", NONE, x::pitch);
    }

    private static void sample() {
        TypebarWorks x = withBars();
        Check.same("38: an empty one", x.sample(), 0);
        x.strike(0, 50);
        Check.same("38: 1", x.sample(), 1);
        x.page();
        Check.same("38: 2", x.sample(), 2);
        Check.same("38: 3", x.sample(), 3);
        Check.fails("38: there are 4", IllegalStateException.class, x::sample);
        Check.fails("38: still", IllegalStateException.class, x::sample);
        Check.same("38: kept", x.likenessBits(1), 0);
        x.strike(0, 50);
        Check.same("38: kept as it was", x.likenessBits(1), Float.floatToIntBits(1.0f));
    }

    private static void likeness() {
        TypebarWorks x = withBars();
        Check.fails("39: none", INDEX, () -> x.likenessBits(0));
        print(x, 0, false, 1, 0);
        print(x, 5, false, 1, 1);
        print(x, 9, false, 0, 2);
        x.sample();
        Check.same("39: the same", x.likenessBits(0), Float.floatToIntBits(1.0f));
        Check.fails("39: -1", INDEX, () -> x.likenessBits(-1));
        Check.fails("39: 1", INDEX, () -> x.likenessBits(1));
        x.page();
        Check.same("39: an empty page", x.likenessBits(0), 0);
        print(x, 0, true, 1, 0);
        Check.same("39: no sign on both", x.likenessBits(0), 0);
        print(x, 0, false, 2, 0);
        Check.same("39: another up", x.likenessBits(0), 0);
        print(x, 5, false, 1, 1);
        Check.same("39: a half", x.likenessBits(0), Float.floatToIntBits(0.5f));
        print(x, 9, false, 0, 1);
        Check.same("39: a third", x.likenessBits(0), Float.floatToIntBits(1.0f / 3.0f));
        print(x, 9, false, 0, 2);
        print(x, 9, false, 0, 2);
        Check.same("39: two thirds", x.likenessBits(0), Float.floatToIntBits(2.0f / 3.0f));
    }

    private static void likenessBits() {
        TypebarWorks x = new TypebarWorks();
        x.margins(0, 199, 0);
        for (int place = 0; place < 20; place++) {
            x.bar(place, (char) (33 + place), (char) (70 + place));
            x.strike(place, 50);
        }
        x.sample();
        x.page();
        for (int place = 0; place < 20; place++) {
            x.align(place, place % 3 == 0 ? 0 : 1, 0, 0);
            x.strike(place, 50);
            Check.same("39: share of " + place, x.likenessBits(0),
                    Float.floatToIntBits((float) (place / 3 + 1) / (float) (place + 1)));
        }
    }

    private static void whose() {
        TypebarWorks x = withBars();
        Check.fails("40: none", NONE, x::whose);
        x.sample();
        print(x, 0, false, 1, 0);
        print(x, 5, false, 1, 0);
        Check.fails("40: only an empty one", NONE, x::whose);
        x.sample();
        Check.same("40: one", x.whose(), 1);
        print(x, 5, false, 0, 0);
        Check.same("40: of a half", x.whose(), 1);
        x.sample();
        Check.same("40: a better one", x.whose(), 2);
        x.sample();
        Check.fails("40: several", NONE, x::whose);
        print(x, 5, false, 1, 0);
        Check.same("40: the first of all", x.whose(), 1);
        x.page();
        Check.fails("40: an empty page", NONE, x::whose);
        print(x, 0, false, 2, 0);
        Check.fails("40: none alike", NONE, x::whose);
        print(x, 5, false, 0, 0);
        Check.fails("40: several of a half", NONE, x::whose);
    }
}
