import java.util.List;
import java.util.NoSuchElementException;
import java.util.function.Consumer;
import java.util.function.Supplier;

/**
 * "A method that throws an exception changes nothing. If several exceptions apply, the exception listed first is
 * thrown.": for each exception of the face a call that throws it, and each call to which several apply.
 */
public final class RefusalTest {
    private static final Class<IndexOutOfBoundsException> INDEX = IndexOutOfBoundsException.class;
    private static final Class<IllegalArgumentException> ARGUMENT = IllegalArgumentException.class;
    private static final Class<IllegalStateException> STATE = IllegalStateException.class;
    private static final Class<UnsupportedOperationException> UNSUPPORTED = UnsupportedOperationException.class;
    private static final Class<NoSuchElementException> NONE = NoSuchElementException.class;
    private static final Class<ArithmeticException> ARITHMETIC = ArithmeticException.class;

    // ways to change a machine so that most calls are refused all the same
    private static final List<Consumer<TypebarWorks>> STIRS = List.of(x -> x.shift(false), RefusalTest::jam,
            TypebarWorks::home, RefusalTest::release, RefusalTest::goOnByCells, x -> x.roll(3), TypebarWorks::sample);

    public static void main(String[] args) {
        bars();
        slugs();
        speeds();
        wears();
        carriages();
        tabulators();
        spaces();
        moves();
        settings();
        strokes();
        strokesAbove();
        jammedAndLocked();
        marks();
        readings();
        samples();
        sums();
        Check.end();
    }

    private static void refused(String what, Class<? extends RuntimeException> due, Supplier<TypebarWorks> made,
            Consumer<TypebarWorks> call) {
        TypebarWorks x = made.get();
        Check.fails(what, due, () -> call.accept(x));
        Check.fails(what + ", again", due, () -> call.accept(x));
        Probe.unchanged(what, made, call);
        for (int index = 0; index < STIRS.size(); index++) {
            Supplier<TypebarWorks> stirred = stirred(made, STIRS.get(index));
            if (due.getSimpleName().equals(Machines.thrownBy(stirred.get(), call))) {
                Probe.unchanged(what + ", stirred by " + index, stirred, call);
            }
        }
    }

    private static Supplier<TypebarWorks> stirred(Supplier<TypebarWorks> made, Consumer<TypebarWorks> stir) {
        return () -> {
            TypebarWorks x = made.get();
            Machines.thrownBy(x, stir);
            return x;
        };
    }

    /** Jams by dead bars, so that the carriage stays where it is. */
    private static void jam(TypebarWorks x) {
        x.strike(20, 50);
        Check.same("jammed", "cj".indexOf(x.strike(23, 0)) >= 0, true);
    }

    private static void release(TypebarWorks x) {
        x.release();
        x.shift(true);
    }

    private static void goOnByCells(TypebarWorks x) {
        for (int print = 0; print < 4 && x.cell() != 1; print++) {
            x.strike(20, 50);
        }
    }

    private static void bars() {
        int[] noPlaces = {-1, 24, Integer.MIN_VALUE, Integer.MAX_VALUE};
        for (int place : noPlaces) {
            refused("bar at " + place, INDEX, States::busy, x -> x.bar(place, 'z', 'Z'));
            refused("bar at " + place + " of no sign", INDEX, States::busy, x -> x.bar(place, ' ', 'Z'));
            refused("dead at " + place, INDEX, States::busy, x -> x.dead(place, 'z', 'Z'));
            refused("dead at " + place + " of no sign", INDEX, States::busy, x -> x.dead(place, 'z', ' '));
        }
        char[] noSigns = {0, 32, 127, 0xffff};
        for (char sign : noSigns) {
            refused("bar of the lower " + (int) sign, ARGUMENT, States::busy, x -> x.bar(0, sign, 'Z'));
            refused("bar of the upper " + (int) sign, ARGUMENT, States::busy, x -> x.bar(2, 'z', sign));
            refused("bar of both " + (int) sign, ARGUMENT, States::busy, x -> x.bar(20, sign, sign));
            refused("dead of the lower " + (int) sign, ARGUMENT, States::busy, x -> x.dead(20, sign, 'Z'));
            refused("dead of the upper " + (int) sign, ARGUMENT, States::busy, x -> x.dead(21, 'z', sign));
            refused("dead of both " + (int) sign, ARGUMENT, States::busy, x -> x.dead(0, sign, sign));
        }
        for (int place = 20; place < 24; place++) {
            int at = place;
            refused("bar at " + at, UNSUPPORTED, States::busy, x -> x.bar(at, 'z', 'Z'));
        }
        for (int place = 0; place < 20; place++) {
            int at = place;
            refused("dead at " + at, UNSUPPORTED, States::busy, x -> x.dead(at, 'z', 'Z'));
        }
    }

    private static void slugs() {
        refused("align at -1", INDEX, States::busy, x -> x.align(-1, 0, 0, 0));
        refused("align at 24", INDEX, States::busy, x -> x.align(24, 0, 0, 0));
        refused("align at 24 by 4", INDEX, States::busy, x -> x.align(24, 4, 4, 4));
        for (int number = -4; number <= 4; number += 8) {
            int by = number;
            refused("align up by " + by, ARGUMENT, States::busy, x -> x.align(0, by, 0, 0));
            refused("align to the side by " + by, ARGUMENT, States::busy, x -> x.align(0, 0, by, 0));
            refused("align twisted by " + by, ARGUMENT, States::busy, x -> x.align(0, 0, 0, by));
            refused("align none up by " + by, ARGUMENT, States::busy, x -> x.align(2, by, 0, 0));
            refused("align none to the side by " + by, ARGUMENT, States::busy, x -> x.align(21, 0, by, 0));
            refused("align none twisted by " + by, ARGUMENT, States::busy, x -> x.align(22, 0, 0, by));
        }
        refused("align none", NONE, States::busy, x -> x.align(2, 3, -3, 1));
        refused("align none of the dead", NONE, States::busy, x -> x.align(22, 3, -3, 1));
    }

    private static void speeds() {
        refused("speed at -1", INDEX, States::busy, x -> x.speed(-1, 2, 9));
        refused("speed at 24", INDEX, States::busy, x -> x.speed(24, 2, 9));
        refused("speed at 24 of 1 and 10", INDEX, States::busy, x -> x.speed(24, 1, 10));
        refused("speed to rise in 1", ARGUMENT, States::busy, x -> x.speed(0, 1, 9));
        refused("speed to rise in 10", ARGUMENT, States::busy, x -> x.speed(0, 10, 9));
        refused("speed to fall in 1", ARGUMENT, States::busy, x -> x.speed(0, 2, 1));
        refused("speed to fall in 10", ARGUMENT, States::busy, x -> x.speed(0, 2, 10));
        refused("speed of none to rise in 1", ARGUMENT, States::busy, x -> x.speed(2, 1, 4));
        refused("speed of none to fall in 10", ARGUMENT, States::busy, x -> x.speed(21, 4, 10));
        refused("speed of none", NONE, States::busy, x -> x.speed(2, 2, 9));
        refused("speed of none of the dead", NONE, States::busy, x -> x.speed(21, 2, 9));
    }

    private static void wears() {
        int[] noPlaces = {-1, 24};
        for (int place : noPlaces) {
            refused("wear at " + place, INDEX, States::busy, x -> x.wear(place));
            refused("solder at " + place, INDEX, States::busy, x -> x.solder(place));
        }
        int[] empties = {2, 18, 21, 22};
        for (int place : empties) {
            refused("wear of none at " + place, NONE, States::busy, x -> x.wear(place));
            refused("solder none at " + place, NONE, States::busy, x -> x.solder(place));
        }
    }

    private static void carriages() {
        refused("load of -1", ARGUMENT, States::busy, x -> x.carriage(-1, 50));
        refused("load of 100", ARGUMENT, States::busy, x -> x.carriage(100, 50));
        refused("spring of 0", ARGUMENT, States::busy, x -> x.carriage(99, 0));
        refused("spring of 51", ARGUMENT, States::busy, x -> x.carriage(99, 51));
        refused("both out of range", ARGUMENT, States::busy, x -> x.carriage(-1, 0));
        refused("left of -1", ARGUMENT, States::busy, x -> x.margins(-1, 199, 30));
        refused("left of 199", ARGUMENT, States::busy, x -> x.margins(199, 199, 30));
        refused("left at right", ARGUMENT, States::busy, x -> x.margins(5, 5, 30));
        refused("left above right", ARGUMENT, States::busy, x -> x.margins(6, 5, 30));
        refused("right of 200", ARGUMENT, States::busy, x -> x.margins(0, 200, 30));
        refused("bell of -1", ARGUMENT, States::busy, x -> x.margins(0, 199, -1));
        refused("bell of 31", ARGUMENT, States::busy, x -> x.margins(0, 199, 31));
        refused("all out of range", ARGUMENT, States::busy, x -> x.margins(-1, -1, -1));
    }

    private static void tabulators() {
        refused("stop set at -1", ARGUMENT, States::busy, x -> x.stop(-1, true));
        refused("stop set at 200", ARGUMENT, States::busy, x -> x.stop(200, true));
        refused("no stop at -1", ARGUMENT, States::busy, x -> x.stop(-1, false));
        refused("no stop at 200", ARGUMENT, States::busy, x -> x.stop(200, false));
        refused("tab at the last stop", NONE, () -> States.releasedAt(60), TypebarWorks::tab);
        refused("tab beyond the last stop", NONE, () -> States.releasedAt(61), TypebarWorks::tab);
        refused("tab without a stop, under way", NONE, () -> States.movingTo(62), TypebarWorks::tab);
        refused("decimal without a stop, under way", NONE, () -> States.movingTo(62), x -> x.decimal(0));
        refused("decimal to where it is, under way", NONE, () -> States.movingTo(50), x -> x.decimal(5));
        refused("decimal of -1", ARGUMENT, States::busy, x -> x.decimal(-1));
        refused("decimal of 10", ARGUMENT, States::busy, x -> x.decimal(10));
        refused("decimal of 10 without a stop", ARGUMENT, () -> States.releasedAt(60), x -> x.decimal(10));
        refused("decimal without a stop", NONE, () -> States.releasedAt(60), x -> x.decimal(0));
        refused("decimal to where it is", NONE, () -> States.releasedAt(50), x -> x.decimal(5));
        refused("decimal to below that", NONE, () -> States.releasedAt(50), x -> x.decimal(6));
        refused("decimal with a later stop", NONE, () -> States.releasedAt(29), x -> x.decimal(1));
        Supplier<TypebarWorks> notReleased = stirred(States::unshifted, x -> Machines.goUpTo(x, 60));
        refused("tab, not released", NONE, notReleased, TypebarWorks::tab);
        refused("decimal, not released", NONE, notReleased, x -> x.decimal(0));
    }

    private static void spaces() {
        refused("a locked space", STATE, States::locked, TypebarWorks::space);
        refused("a locked half space", STATE, States::locked, TypebarWorks::half);
        refused("a space locked at 199", STATE, States::lockedAtTheEnd, TypebarWorks::space);
        refused("a half space locked at 199", STATE, States::lockedAtTheEnd, TypebarWorks::half);
        refused("a space from 199", UNSUPPORTED, () -> States.releasedAt(199), TypebarWorks::space);
        refused("a space from 198", UNSUPPORTED, () -> States.releasedAt(198), TypebarWorks::space);
        refused("a half space from 199", UNSUPPORTED, () -> States.releasedAt(199), TypebarWorks::half);
        refused("a space from 198, not released", UNSUPPORTED, RefusalTest::openAtTheEnd, TypebarWorks::space);
        refused("a space locked under way", STATE, () -> States.lockedUnderWay(20, 20), TypebarWorks::space);
        refused("a half space locked under way", STATE, () -> States.lockedUnderWay(20, 19), TypebarWorks::half);
        refused("a space from 199 under way", UNSUPPORTED, () -> States.movingTo(199), TypebarWorks::space);
        refused("a half space from 199 under way", UNSUPPORTED, () -> States.movingTo(199), TypebarWorks::half);
    }

    /** At 198, not released, and not locked. */
    private static TypebarWorks openAtTheEnd() {
        TypebarWorks x = States.unshifted();
        x.margins(3, 199, 2);
        Machines.goUpTo(x, 198);
        return x;
    }

    private static TypebarWorks nearTheStart(int column) {
        TypebarWorks x = States.busy();
        x.margins(column, 150, 7);
        x.page();
        x.strike(0, 50);
        x.back();
        return x;
    }

    private static void moves() {
        refused("back from 0", UNSUPPORTED, () -> nearTheStart(0), TypebarWorks::back);
        refused("back from 1", UNSUPPORTED, () -> nearTheStart(1), TypebarWorks::back);
        refused("a return from 393", UNSUPPORTED, () -> States.rolledUp(10), TypebarWorks::home);
        refused("a return from 399", UNSUPPORTED, () -> States.rolledUp(13), TypebarWorks::home);
        refused("rolled by -31", ARGUMENT, States::busy, x -> x.roll(-31));
        refused("rolled by 31", ARGUMENT, States::busy, x -> x.roll(31));
        refused("rolled by -31, below 0 too", ARGUMENT, States::withPage, x -> x.roll(-31));
        refused("rolled by 31, above 399 too", ARGUMENT, () -> States.rolledUp(13), x -> x.roll(31));
        refused("rolled below 0", UNSUPPORTED, States::withPage, x -> x.roll(-1));
        refused("rolled by -30 below 0", UNSUPPORTED, States::busy, x -> x.roll(-30));
        refused("rolled above 399", UNSUPPORTED, () -> States.rolledUp(13), x -> x.roll(1));
        refused("rolled by 30 above 399", UNSUPPORTED, () -> States.rolledUp(0), x -> x.roll(30));
        refused("line space of 1", ARGUMENT, States::busy, x -> x.lines(1));
        refused("line space of 5", ARGUMENT, States::busy, x -> x.lines(5));
    }

    private static void settings() {
        refused("ribbon of 1", ARGUMENT, States::busy, x -> x.ribbon(1));
        refused("ribbon of 100", ARGUMENT, States::busy, x -> x.ribbon(100));
        refused("colour 'x'", ARGUMENT, States::busy, x -> x.colour('x'));
        refused("colour 'R'", ARGUMENT, States::busy, x -> x.colour('R'));
        refused("ink of the cell -1", INDEX, States::busy, x -> x.ink(-1, 'k'));
        refused("ink of the cell 3 of 3", INDEX, States::busy, x -> x.ink(3, 'k'));
        refused("ink of no cell and colour", INDEX, States::busy, x -> x.ink(-1, '-'));
        refused("ink of no cell and colour above", INDEX, States::busy, x -> x.ink(3, 'x'));
        refused("ink of '-'", ARGUMENT, States::busy, x -> x.ink(0, '-'));
        refused("ink of 'x'", ARGUMENT, States::busy, x -> x.ink(2, 'x'));
        refused("level of -4", ARGUMENT, States::busy, x -> x.level(-4));
        refused("level of 4", ARGUMENT, States::busy, x -> x.level(4));
    }

    private static void strokes() {
        int[] noPlaces = {-1, 24, Integer.MIN_VALUE, Integer.MAX_VALUE};
        for (int place : noPlaces) {
            refused("strike at " + place, INDEX, States::busy, x -> x.strike(place, 5));
            refused("strike at " + place + " behind 100", INDEX, States::busy, x -> x.strike(place, 100));
        }
        int[] noWaits = {-1, 100, Integer.MIN_VALUE, Integer.MAX_VALUE};
        for (int wait : noWaits) {
            refused("strike behind " + wait, ARGUMENT, States::busy, x -> x.strike(0, wait));
            refused("strike none behind " + wait, ARGUMENT, States::busy, x -> x.strike(2, wait));
        }
        refused("strike none", NONE, States::busy, x -> x.strike(2, 5));
        refused("strike none of the dead", NONE, States::busy, x -> x.strike(21, 0));
    }

    private static void strokesAbove() {
        for (int column = 198; column <= 199; column++) {
            int at = column;
            Supplier<TypebarWorks> made = () -> States.releasedAt(at);
            refused("print above 199 from " + at, UNSUPPORTED, made, x -> x.strike(1, 50));
            refused("strike none from " + at, NONE, made, x -> x.strike(2, 50));
            refused("strike above 199 behind 100 from " + at, ARGUMENT, made, x -> x.strike(1, 100));
            refused("strike no place from " + at, INDEX, made, x -> x.strike(24, 50));
        }
        refused("print above 199, not released", UNSUPPORTED, RefusalTest::openAtTheEnd, x -> x.strike(1, 50));
        refused("skip above 199", UNSUPPORTED, () -> States.movingTo(198), x -> x.strike(1, 50));
    }

    private static void jammedAndLocked() {
        refused("strike none, jammed", NONE, States::jammed, x -> x.strike(2, 5));
        refused("strike behind 100, jammed", ARGUMENT, States::jammed, x -> x.strike(0, 100));
        refused("strike at 24, jammed", INDEX, States::jammed, x -> x.strike(24, 5));
        refused("strike none, locked", NONE, States::locked, x -> x.strike(2, 5));
        refused("strike behind 100, locked", ARGUMENT, States::locked, x -> x.strike(0, 100));
        refused("strike at 24, locked", INDEX, States::locked, x -> x.strike(24, 5));
    }

    private static void marks() {
        refused("mark -1", INDEX, States::withPage, x -> x.mark(-1, 's'));
        refused("mark 1 of 1", INDEX, States::withPage, x -> x.mark(1, 's'));
        refused("nothing of mark -1", INDEX, States::withPage, x -> x.mark(-1, 'q'));
        refused("nothing of mark 1", INDEX, States::withPage, x -> x.mark(1, 'q'));
        refused("nothing of mark 0", ARGUMENT, States::withPage, x -> x.mark(0, 'q'));
        refused("mark 60", INDEX, States::busy, x -> x.mark(60, 's'));
    }

    private static void readings() {
        refused("pitch of no mark", NONE, States::withEmptyPage, TypebarWorks::pitch);
        refused("pitch of no mark, jammed", NONE, RefusalTest::jammedWithEmptyPage, TypebarWorks::pitch);
        refused("pitch of one mark", NONE, States::withPage, TypebarWorks::pitch);
        refused("cause of a sign that is not there", NONE, States::withPage, x -> x.cause('b'));
        refused("cause of a sign without a bar", NONE, States::withPage, x -> x.cause('z'));
        refused("cause of no sign", NONE, States::withPage, x -> x.cause(' '));
        refused("cause of a sign whose bar is gone", NONE, RefusalTest::withoutItsBar, x -> x.cause('A'));
    }

    /** With an empty page, jammed, so that the page has to be taken behind that. */
    private static TypebarWorks jammedWithEmptyPage() {
        TypebarWorks x = States.jammed();
        x.page();
        return x;
    }

    private static TypebarWorks withoutItsBar() {
        TypebarWorks x = States.withPage();
        x.bar(0, 'z', 'Z');
        return x;
    }

    private static void samples() {
        refused("a fifth sample", STATE, States::withFourSamples, TypebarWorks::sample);
        refused("likeness of -1", INDEX, States::busy, x -> x.likenessBits(-1));
        refused("likeness of 2 of 2", INDEX, States::busy, x -> x.likenessBits(2));
        refused("likeness of 4 of 4", INDEX, States::withFourSamples, x -> x.likenessBits(4));
        refused("whose without a sample", NONE, States::withoutStrokes, TypebarWorks::whose);
        refused("whose of an empty page", NONE, States::withEmptyPage, TypebarWorks::whose);
        refused("whose of an empty page, jammed", NONE, RefusalTest::jammedWithEmptyPage, TypebarWorks::whose);
        refused("whose of several", NONE, States::withFourSamples, TypebarWorks::whose);
    }

    private static void sums() {
        refused("share of no strokes", ARITHMETIC, States::withoutStrokes, TypebarWorks::printShare);
        refused("share of no bars", ARITHMETIC, States::withoutBars, TypebarWorks::printShare);
        refused("mean wear of no bars", ARITHMETIC, States::withoutBars, TypebarWorks::meanWearBits);
    }
}
