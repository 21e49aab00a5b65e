import java.util.NoSuchElementException;

/** Promises 8 to 23: the carriage, its margins, stops and moves, and the platen. */
public final class CarriageTest {
    private static final Class<IllegalArgumentException> ARGUMENT = IllegalArgumentException.class;
    private static final Class<IllegalStateException> STATE = IllegalStateException.class;
    private static final Class<UnsupportedOperationException> UNSUPPORTED = UnsupportedOperationException.class;
    private static final Class<NoSuchElementException> NONE = NoSuchElementException.class;

    public static void main(String[] args) {
        carriage();
        escapes();
        rest();
        restByMoves();
        margins();
        release();
        rings();
        stop();
        tab();
        decimal();
        space();
        half();
        back();
        home();
        roll();
        lines();
        Check.end();
    }

    private static void carriage() {
        TypebarWorks x = new TypebarWorks();
        Check.same("8: as at first", x.carriage(10, 10), 3);
        Check.same("8: whole", x.carriage(0, 1), 20);
        Check.same("8: cut up", x.carriage(30, 7), 8);
        Check.same("8: below 1", x.carriage(0, 50), 1);
        Check.same("8: the most", x.carriage(99, 1), 119);
        Check.fails("8: load -1", ARGUMENT, () -> x.carriage(-1, 10));
        Check.fails("8: load 100", ARGUMENT, () -> x.carriage(100, 10));
        Check.fails("8: spring 0", ARGUMENT, () -> x.carriage(10, 0));
        Check.fails("8: spring 51", ARGUMENT, () -> x.carriage(10, 51));
        Check.same("8: nothing changed", x.escapeBits(), Float.floatToIntBits(119.0f));
    }

    private static void escapes() {
        Check.same("9: at first", new TypebarWorks().escapeBits(), Float.floatToIntBits(3.0f));
        for (int load = 0; load <= 99; load++) {
            TypebarWorks x = new TypebarWorks();
            for (int spring = 1; spring <= 50; spring++) {
                int ticks = x.carriage(load, spring);
                Check.same("8: escape of " + load + " by " + spring, ticks, (20 + load + spring - 1) / spring);
                Check.same("9: bits of " + load + " by " + spring, x.escapeBits(),
                        Float.floatToIntBits((float) (20 + load) / (float) spring));
            }
        }
    }

    private static void rest() {
        TypebarWorks x = new TypebarWorks();
        x.bar(0, 'a', 'A');
        x.bar(5, 'b', 'B');
        x.dead(20, '^', '~');
        Check.same("10: at first", x.rest(), 0);
        x.strike(0, 5);
        Check.same("10: behind a print", x.rest(), 7);
        Check.letter("10: not home", x.strike(0, 6), 'b');
        Check.same("10: from now on", x.rest(), 1);
        Check.letter("10: dead", x.strike(20, 1), 'p');
        Check.same("10: at rest", x.rest(), 0);
        Check.same("10: carriage", x.carriage(99, 1), 119);
        Check.same("10: at rest still", x.rest(), 0);
        Check.letter("10: print", x.strike(0, 50), 'p');
        Check.same("10: behind it", x.rest(), 4 + 119);
        x.carriage(0, 50);
        Check.same("10: as that step was let go", x.rest(), 4 + 119);
        Check.letter("10: skip", x.strike(5, 90), 's');
        Check.same("10: behind the skip", x.rest(), 4 + 1);
    }

    private static void restByMoves() {
        TypebarWorks x = new TypebarWorks();
        x.space();
        Check.same("10: a space at the tick 0", x.rest(), 0);
        x.home();
        Check.same("10: a return at the tick 0", x.rest(), 0);
        x.bar(0, 'a', 'A');
        x.stop(100, true);
        x.stop(120, true);
        strikeForRest(x);
        x.space();
        Check.same("10: space", x.rest(), 0);
        strikeForRest(x);
        x.half();
        Check.same("10: half", x.rest(), 0);
        strikeForRest(x);
        x.back();
        Check.same("10: back", x.rest(), 0);
        strikeForRest(x);
        x.tab();
        Check.same("10: tab", x.rest(), 0);
        strikeForRest(x);
        x.decimal(1);
        Check.same("10: decimal", x.rest(), 0);
        strikeForRest(x);
        x.roll(1);
        x.lines(3);
        x.free();
        x.shift(true);
        Check.same("10: no move of the carriage", x.rest(), 7);
        x.home();
        Check.same("10: home", x.rest(), 0);
        strikeForRest(x);
        x.page();
        Check.same("10: page", x.rest(), 0);
        strikeForRest(x);
        Check.fails("10: refused", ARGUMENT, () -> x.roll(31));
        x.back();
        x.space();
        Check.letter("10: prints at once", x.strike(0, 8), 'p');
    }

    private static void strikeForRest(TypebarWorks x) {
        Check.letter("10: a stroke", x.strike(0, 50), 'p');
        Check.same("10: behind the stroke", x.rest(), 7);
    }

    private static void margins() {
        TypebarWorks x = new TypebarWorks();
        Check.same("11: right at first", x.margins(0, 1, 0), 160);
        Check.same("11: right before", x.margins(198, 199, 30), 1);
        Check.fails("11: left -1", ARGUMENT, () -> x.margins(-1, 20, 5));
        Check.fails("11: left 199", ARGUMENT, () -> x.margins(199, 199, 5));
        Check.fails("11: left 200", ARGUMENT, () -> x.margins(200, 201, 5));
        Check.fails("11: the greatest left", ARGUMENT, () -> x.margins(Integer.MAX_VALUE, 20, 5));
        Check.fails("11: right at left", ARGUMENT, () -> x.margins(12, 12, 5));
        Check.fails("11: right below left", ARGUMENT, () -> x.margins(12, 11, 5));
        Check.fails("11: right 200", ARGUMENT, () -> x.margins(12, 200, 5));
        Check.fails("11: bell -1", ARGUMENT, () -> x.margins(0, 160, -1));
        Check.fails("11: bell 31", ARGUMENT, () -> x.margins(0, 160, 31));
        Check.same("11: nothing changed", x.margins(7, 20, 5), 199);
        Check.same("11: the carriage stays", x.column(), 0);
        x.home();
        Check.same("11: left", x.column(), 7);
        x.margins(0, 7, 0);
        Check.fails("11: locked by the new margin", STATE, x::space);
        x.margins(0, 8, 0);
        Check.same("11: and not by this", x.space(), 9);
    }

    private static void release() {
        TypebarWorks x = new TypebarWorks();
        x.bar(0, 'a', 'A');
        x.margins(0, 4, 0);
        x.space();
        x.space();
        Check.letter("12: locked", x.strike(0, 5), 'm');
        Check.same("12: first", x.release(), false);
        Check.same("12: again", x.release(), true);
        Check.letter("12: open", x.strike(0, 5), 'p');
        Check.same("12: on", x.space(), 8);
        x.back();
        x.back();
        x.back();
        x.margins(0, 4, 1);
        Check.same("12: open still", x.release(), true);
        x.home();
        Check.same("12: ended by the return", x.release(), false);
        x.page();
        Check.same("12: ended by a new page", x.release(), false);
    }

    private static void rings() {
        TypebarWorks x = new TypebarWorks();
        x.bar(0, 'a', 'A');
        x.dead(20, '^', '~');
        x.stop(10, true);
        x.margins(0, 12, 3);
        x.tab();
        Check.same("13: not by a tabulator", x.rings(), 0);
        x.back();
        Check.same("13: not from above", x.rings(), 0);
        x.strike(20, 50);
        Check.same("13: not by a dead bar", x.rings(), 0);
        x.half();
        Check.same("13: to there", x.rings(), 1);
        x.half();
        Check.same("13: not from there", x.rings(), 1);
        x.back();
        x.space();
        Check.same("13: beyond", x.rings(), 2);
        x.back();
        x.strike(0, 50);
        Check.same("13: by a stroke", x.rings(), 3);
        x.back();
        x.carriage(99, 1);
        x.strike(0, 50);
        Check.same("13: by another one", x.rings(), 4);
        x.home();
        x.page();
        Check.same("13: ever", x.rings(), 4);
        ringBySkip();
        ringEdges();
    }

    private static void ringBySkip() {
        TypebarWorks x = new TypebarWorks();
        x.bar(0, 'a', 'A');
        x.bar(5, 'b', 'B');
        x.carriage(99, 1);
        x.margins(0, 100, 97 - 69);
        for (int index = 0; index < 34; index++) {
            x.space();
        }
        x.strike(0, 0);
        Check.same("13: below", x.rings(), 0);
        Check.letter("13: skip", x.strike(5, 10), 's');
        Check.same("13: by a skip", x.rings(), 1);
    }

    private static void ringEdges() {
        TypebarWorks x = new TypebarWorks();
        x.margins(0, 5, 10);
        x.space();
        x.space();
        x.space();
        Check.same("13: never from below 0", x.rings(), 0);
        x.home();
        x.margins(0, 5, 0);
        x.space();
        x.space();
        Check.same("13: not yet", x.rings(), 0);
        x.half();
        Check.same("13: at the margin", x.rings(), 1);
        TypebarWorks y = new TypebarWorks();
        for (int index = 0; index < 74; index++) {
            y.space();
        }
        Check.same("13: at first not at 148", y.rings(), 0);
        y.half();
        Check.same("13: at first not at 149", y.rings(), 0);
        y.half();
        Check.same("13: at first at 150", y.rings(), 1);
    }

    private static void stop() {
        TypebarWorks x = new TypebarWorks();
        Check.same("14: set", x.stop(0, true), false);
        Check.same("14: again", x.stop(0, true), true);
        Check.same("14: away", x.stop(0, false), true);
        Check.same("14: away again", x.stop(0, false), false);
        Check.same("14: last", x.stop(199, true), false);
        Check.fails("14: -1", ARGUMENT, () -> x.stop(-1, true));
        Check.fails("14: 200", ARGUMENT, () -> x.stop(200, true));
        Check.same("14: goes there", x.tab(), 199);
        x.stop(199, false);
        x.back();
        Check.fails("14: gone", NONE, x::tab);
    }

    private static void tab() {
        TypebarWorks x = new TypebarWorks();
        Check.fails("15: none", NONE, x::tab);
        x.stop(0, true);
        Check.fails("15: none above", NONE, x::tab);
        x.stop(5, true);
        x.stop(3, true);
        Check.same("15: next", x.tab(), 3);
        Check.same("15: next then", x.tab(), 5);
        Check.same("15: there", x.column(), 5);
        Check.fails("15: no more", NONE, x::tab);
        Check.same("15: stays", x.column(), 5);
        x.margins(0, 4, 0);
        x.stop(9, true);
        Check.same("15: not locked", x.tab(), 9);
    }

    private static void decimal() {
        TypebarWorks x = new TypebarWorks();
        Check.fails("16: -1", ARGUMENT, () -> x.decimal(-1));
        Check.fails("16: 10", ARGUMENT, () -> x.decimal(10));
        Check.fails("16: none", NONE, () -> x.decimal(0));
        x.stop(30, true);
        x.stop(60, true);
        Check.same("16: 9 digits", x.decimal(9), 12);
        Check.fails("16: to where it is", NONE, () -> x.decimal(9));
        Check.fails("16: by the next stop alone", NONE, () -> x.decimal(9));
        Check.same("16: one step on", x.decimal(8), 14);
        Check.same("16: no digits", x.decimal(0), 30);
        Check.same("16: next", x.decimal(1), 58);
        Check.fails("16: to where it is again", NONE, () -> x.decimal(1));
        Check.same("16: half a step less", x.half(), 59);
        Check.fails("16: below where it is", NONE, () -> x.decimal(1));
        Check.same("16: there", x.column(), 59);
    }

    private static void space() {
        TypebarWorks x = new TypebarWorks();
        Check.same("17: first", x.space(), 2);
        Check.same("17: second", x.space(), 4);
        x.margins(0, 5, 0);
        Check.same("17: beyond", x.space(), 6);
        Check.fails("17: locked", STATE, x::space);
        Check.same("17: stays", x.column(), 6);
        x.margins(0, 199, 0);
        x.stop(197, true);
        x.tab();
        Check.same("17: to 199", x.space(), 199);
        Check.fails("17: locked ahead of 199", STATE, x::space);
        x.release();
        Check.fails("17: above 199", UNSUPPORTED, x::space);
        x.back();
        Check.same("17: back", x.half(), 198);
        Check.fails("17: to 200", UNSUPPORTED, x::space);
        Check.same("17: there", x.column(), 198);
    }

    private static void half() {
        TypebarWorks x = new TypebarWorks();
        Check.same("18: first", x.half(), 1);
        x.margins(0, 2, 0);
        Check.same("18: to the margin", x.half(), 2);
        Check.fails("18: locked", STATE, x::half);
        x.margins(0, 199, 0);
        x.stop(198, true);
        x.tab();
        Check.same("18: to 199", x.half(), 199);
        Check.fails("18: locked ahead of 199", STATE, x::half);
        x.release();
        Check.fails("18: above 199", UNSUPPORTED, x::half);
        Check.same("18: there", x.column(), 199);
    }

    private static void back() {
        TypebarWorks x = new TypebarWorks();
        Check.fails("19: at 0", UNSUPPORTED, x::back);
        x.half();
        Check.fails("19: at 1", UNSUPPORTED, x::back);
        Check.same("19: stays", x.column(), 1);
        x.half();
        Check.same("19: from 2", x.back(), 0);
        x.margins(10, 20, 0);
        x.home();
        Check.same("19: below the left margin", x.back(), 8);
    }

    private static void home() {
        TypebarWorks x = new TypebarWorks();
        x.space();
        Check.same("20: first", x.home(), 6);
        Check.same("20: at the left", x.column(), 0);
        x.lines(3);
        Check.same("20: by 3", x.home(), 15);
        x.lines(4);
        Check.same("20: by 4", x.home(), 27);
        for (int index = 0; index < 31; index++) {
            x.home();
        }
        Check.same("20: to 399", x.roll(0), 399);
        x.space();
        x.release();
        Check.fails("20: above 399", UNSUPPORTED, x::home);
        Check.same("20: nothing moved", x.column(), 2);
        Check.same("20: nothing locked", x.release(), true);
        Check.same("20: nothing rolled", x.roll(0), 399);
        x.lines(2);
        x.roll(-3);
        Check.same("20: from 393 to 399", x.home(), 399);
        x.roll(-2);
        Check.fails("20: from 395", UNSUPPORTED, x::home);
        Check.same("20: stays", x.roll(0), 395);
    }

    private static void roll() {
        TypebarWorks x = new TypebarWorks();
        Check.same("21: 30", x.roll(30), 60);
        Check.same("21: -30", x.roll(-30), 0);
        Check.fails("21: below 0", UNSUPPORTED, () -> x.roll(-1));
        Check.fails("21: 31", ARGUMENT, () -> x.roll(31));
        Check.fails("21: -31", ARGUMENT, () -> x.roll(-31));
        for (int index = 0; index < 6; index++) {
            x.roll(30);
        }
        Check.same("21: to 398", x.roll(19), 398);
        Check.fails("21: above 399", UNSUPPORTED, () -> x.roll(1));
        Check.fails("21: the range first", ARGUMENT, () -> x.roll(31));
        Check.same("21: stays", x.roll(0), 398);
        x.bar(0, 'a', 'A');
        x.strike(0, 0);
        Check.same("21: a mark there", x.mark(0, 'r'), 398);
    }

    private static void lines() {
        TypebarWorks x = new TypebarWorks();
        Check.same("22: at first", x.lines(3), 2);
        Check.same("22: before", x.lines(4), 3);
        Check.fails("22: 1", ARGUMENT, () -> x.lines(1));
        Check.fails("22: 5", ARGUMENT, () -> x.lines(5));
        Check.same("22: stays", x.lines(2), 4);
        Check.same("23: column", x.column(), 0);
        x.half();
        Check.same("23: column then", x.column(), 1);
    }
}
