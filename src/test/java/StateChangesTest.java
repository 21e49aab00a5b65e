import java.util.List;
import java.util.function.Consumer;
import java.util.function.Supplier;

/**
 * "Nothing is promised beyond the answers and state changes described above": a call changes nothing else. What a call
 * changes is set back, or was so before, or is done ahead of other calls, so that all answers must be as ever.
 */
public final class StateChangesTest {
    private static final List<Supplier<TypebarWorks>> UNDER_WAY =
            List.of(States::busy, States::jammed, States::unshifted);
    private static final List<Supplier<TypebarWorks>> ALL =
            List.of(States::busy, States::jammed, States::unshifted, States::still, States::backward);

    public static void main(String[] args) {
        looks();
        readings();
        setAndSetBack();
        movedAndMovedBack();
        moves();
        asBefore();
        freed();
        newRibbons();
        bars();
        samples();
        pages();
        countsStay();
        ribbonGoesOn();
        strokes();
        settingsStay();
        anotherMachine();
        Check.end();
    }

    private static void changesNothing(String what, Consumer<TypebarWorks> call) {
        for (Supplier<TypebarWorks> made : ALL) {
            Probe.unchanged(what, made, call);
        }
    }

    private static Supplier<TypebarWorks> behind(Supplier<TypebarWorks> made, Consumer<TypebarWorks> calls) {
        return () -> {
            TypebarWorks x = made.get();
            calls.accept(x);
            return x;
        };
    }

    /** "Returns ..." is all that these do. */
    private static void looks() {
        changesNothing("wear", x -> x.wear(20));
        changesNothing("escapeBits", TypebarWorks::escapeBits);
        changesNothing("rest", TypebarWorks::rest);
        Probe.unchanged("rest behind a sample", behind(States::busy, TypebarWorks::sample), TypebarWorks::rest);
        changesNothing("rings", TypebarWorks::rings);
        changesNothing("column", TypebarWorks::column);
        changesNothing("ink", x -> x.ink(1, 'k'));
        changesNothing("cell", TypebarWorks::cell);
        changesNothing("now", TypebarWorks::now);
        changesNothing("marks", TypebarWorks::marks);
        changesNothing("mark", x -> x.mark(0, 's'));
    }

    private static void readings() {
        changesNothing("pitch", TypebarWorks::pitch);
        changesNothing("cause", x -> x.cause('^'));
        changesNothing("cause of an upper one", x -> x.cause('A'));
        changesNothing("likenessBits", x -> x.likenessBits(0));
        changesNothing("whose", TypebarWorks::whose);
        changesNothing("printShare", TypebarWorks::printShare);
        changesNothing("meanWearBits", TypebarWorks::meanWearBits);
        changesNothing("checksum", TypebarWorks::checksum);
        changesNothing("isTrue", TypebarWorks::isTrue);
    }

    private static void setAndSetBack() {
        changesNothing("align", x -> {
            x.align(0, 0, 0, 0);
            x.align(0, 1, -2, 3);
        });
        changesNothing("speed", x -> {
            x.speed(0, 9, 2);
            x.speed(0, 5, 6);
        });
        changesNothing("carriage", x -> {
            x.carriage(0, 50);
            x.carriage(40, 7);
        });
        changesNothing("margins", x -> {
            x.margins(0, 199, 30);
            x.margins(3, 150, 7);
        });
        changesNothing("stop", x -> {
            x.stop(61, true);
            x.stop(61, false);
            x.stop(30, false);
            x.stop(30, true);
        });
        changesNothing("lines", x -> x.lines(x.lines(4)));
        changesNothing("colour", x -> x.colour(x.colour('-')));
        changesNothing("shift", x -> x.shift(x.shift(true)));
        changesNothing("level", x -> x.level(x.level(-3)));
    }

    private static void movedAndMovedBack() {
        changesNothing("roll", x -> {
            x.roll(7);
            x.roll(-7);
        });
        for (Supplier<TypebarWorks> made : ALL) {
            Probe.unchanged("back", behind(made, TypebarWorks::half), x -> {
                x.half();
                x.half();
                x.back();
            });
            Probe.unchanged("home", behind(made, x -> {
                x.page();
                x.lines(4);
                x.roll(10);
            }), x -> {
                x.home();
                x.roll(-6);
            });
        }
    }

    /** The same place by several moves; the bell is not near. */
    private static void moves() {
        for (Supplier<TypebarWorks> made : UNDER_WAY) {
            Supplier<TypebarWorks> byHalf = behind(made, TypebarWorks::half);
            Probe.alike("tab", behind(made, x -> {
                int next = x.column() + 1;
                x.stop(next, true);
                x.tab();
                x.stop(next, false);
            }), byHalf);
            Probe.alike("decimal", behind(made, x -> {
                int next = x.column() + 3;
                x.stop(next, true);
                x.decimal(1);
                x.stop(next, false);
            }), byHalf);
            Probe.alike("space", behind(made, TypebarWorks::space), behind(byHalf, TypebarWorks::half));
        }
    }

    /** What is so before is so then. */
    private static void asBefore() {
        Probe.unchanged("release", States::busy, TypebarWorks::release);
        Probe.unchanged("release in another order", States::backward, TypebarWorks::release);
        changesNothing("solder", x -> x.solder(19));
    }

    /** Changes what is neither a stroke nor a mark, and not to what it is at first. */
    private static void changeSettings(TypebarWorks x) {
        x.align(0, 2, 2, 2);
        x.speed(0, 6, 7);
        x.carriage(50, 8);
        x.margins(4, 70, 8);
        x.stop(62, true);
        x.lines(4);
        x.roll(4);
        x.level(-2);
        x.shift(true);
        x.colour('r');
    }

    /** Strokes and moves beside that; on a full page these leave no marks. */
    private static void changeAll(TypebarWorks x) {
        x.home();
        Machines.goUpTo(x, 61);
        x.space();
        changeSettings(x);
        x.release();
        x.strike(20, 50);
        x.strike(1, 50);
        Check.letter("not home", x.strike(1, 1), 'b');
        x.strike(0, 6);
    }

    /** "Frees the bars; all are home then": as the last stroke is long ago. */
    private static void freed() {
        Supplier<TypebarWorks> made = behind(States::busy, x -> {
            x.free();
            changeAll(x);
            x.sample();
            x.home();
            x.margins(2, 3, 5);
            Check.letter("locked", x.strike(0, 99), 'm');
        });
        Probe.unchanged("free", made, TypebarWorks::free);
    }

    /** "Puts a new ribbon": as there is one already. */
    private static void newRibbons() {
        Probe.unchanged("ribbon", behind(States::busy, x -> {
            x.ribbon(3);
            changeSettings(x);
            x.colour('-');
            x.half();
            x.strike(20, 50);
            x.strike(0, 10);
            x.strike(0, 1);
            x.sample();
        }), x -> x.ribbon(3));
        Probe.unchanged("ribbon without the shift", behind(States::busy, x -> {
            x.ribbon(3);
            x.page();
            x.shift(false);
        }), x -> x.ribbon(3));
    }

    /** A bar that is put earlier or later, if it is not struck. */
    private static void bars() {
        List<Consumer<TypebarWorks>> put = List.of(x -> x.bar(2, 'z', 'Z'), x -> x.bar(19, 'z', 'Z'),
                x -> x.dead(21, 'z', 'Z'));
        for (Consumer<TypebarWorks> call : put) {
            Probe.alike("put", behind(States::busy, call), () -> States.busyWith(call));
            Consumer<TypebarWorks> clash = x -> Check.letter("a clash", x.strike(1, 0), 'c');
            Probe.alike("put, jammed", behind(behind(States::busy, clash), call),
                    behind(() -> States.busyWith(call), clash));
            Probe.alike("put, not released", behind(behind(States::busy, TypebarWorks::page), call),
                    behind(() -> States.busyWith(call), TypebarWorks::page));
        }
    }

    private static Supplier<TypebarWorks> full() {
        return behind(States::busy, x -> {
            for (int print = 0; print < 60; print++) {
                x.strike(20, 50);
            }
        });
    }

    /** "Keeps the page as a sample", and leaves it and all else as it was. */
    private static void samples() {
        Probe.alike("sample", behind(behind(full(), TypebarWorks::sample), StateChangesTest::changeAll),
                behind(behind(full(), StateChangesTest::changeAll), TypebarWorks::sample));
        TypebarWorks x = States.unshifted();
        x.sample();
        Check.same("not released by a sample", x.release(), false);
        Check.same("not shifted by a sample", x.shift(true), false);
        TypebarWorks y = States.jammed();
        y.sample();
        Check.letter("jammed behind a sample", y.strike(0, 0), 'j');
    }

    /** "Takes a new page": settings are as they were, and bars are on their way. */
    private static void pages() {
        Probe.unchanged("page", States::withEmptyPage, TypebarWorks::page);
        Probe.alike("page", behind(behind(States::busy, TypebarWorks::page), StateChangesTest::changeSettings),
                behind(behind(States::busy, x -> {
                    changeSettings(x);
                    x.margins(3, 150, 7);
                    x.roll(-4);
                }), x -> {
                    x.page();
                    x.margins(4, 70, 8);
                    x.roll(4);
                }));
        TypebarWorks x = Machines.withBars();
        x.strike(20, 50);
        x.page();
        Check.letter("not home behind a page", x.strike(20, 7), 'b');
        TypebarWorks y = Machines.withBars();
        y.strike(20, 50);
        y.page();
        Check.letter("a clash behind a page", y.strike(23, 2), 'c');
        y.margins(0, 20, 5);
        y.page();
        for (int column = 1; column < 20; column++) {
            y.half();
            Check.same("the bell behind a page at " + column, y.rings(), column < 15 ? 0 : 1);
        }
    }

    /** What is counted is counted by what the document says alone, and goes back by nothing. */
    private static void countsStay() {
        List<Consumer<TypebarWorks>> calls = List.of(x -> x.bar(2, 'z', 'Z'), x -> x.dead(21, 'z', 'Z'),
                x -> x.solder(19), TypebarWorks::sample, TypebarWorks::page, TypebarWorks::free, x -> x.ribbon(5),
                TypebarWorks::home, TypebarWorks::back, TypebarWorks::tab, x -> x.decimal(1), TypebarWorks::half);
        for (int index = 0; index < calls.size(); index++) {
            TypebarWorks x = States.busy();
            Check.same("rung", x.rings(), 1);
            int tick = x.now();
            float share = x.printShare();
            calls.get(index).accept(x);
            Check.same("rings behind the call " + index, x.rings(), 1);
            Check.same("tick behind the call " + index, x.now(), tick);
            Check.same("share behind the call " + index, Float.floatToIntBits(x.printShare()),
                    Float.floatToIntBits(share));
            Check.same("wear behind the call " + index, x.wear(20), 11);
            Check.same("other wear behind the call " + index, x.wear(0), 2);
        }
    }

    /** The ribbon goes its way by prints alone. */
    private static void ribbonGoesOn() {
        List<Consumer<TypebarWorks>> calls = List.of(TypebarWorks::page, TypebarWorks::free, TypebarWorks::sample,
                TypebarWorks::home, TypebarWorks::half, TypebarWorks::back, x -> x.bar(2, 'z', 'Z'),
                x -> x.solder(20), x -> x.shift(true), x -> x.colour(x.colour('-')), x -> x.colour(x.colour('r')));
        for (int index = 0; index < calls.size(); index++) {
            TypebarWorks x = Machines.at(4);
            x.ribbon(3);
            int[] due = {0, 1, 2, 2, 1, 0, 0, 1};
            for (int print = 0; print < due.length; print++) {
                Check.same("cell by the call " + index + " behind " + print, x.cell(), due[print]);
                x.strike(20, 50);
                if (print == 3) {
                    calls.get(index).accept(x);
                }
            }
            int[] left = {6, 6, 7};
            for (int cell = 0; cell < left.length; cell++) {
                Check.same("ink by the call " + index + " at " + cell, x.ink(cell, 'k'), left[cell]);
                Check.same("red ink by the call " + index + " at " + cell, x.ink(cell, 'r'), 9);
            }
        }
    }

    /** Strokes that were not 'p' or 's' change the tick and the share alone, and the clash jams. */
    private static void strokes() {
        Supplier<TypebarWorks> notHome = behind(States::still, x -> x.strike(5, 50));
        Probe.alike("a bar that is not home, or a jammed one", behind(notHome, x -> {
            Check.letter("not home", x.strike(5, 1), 'b');
            Check.letter("a clash", x.strike(20, 0), 'c');
        }), behind(notHome, x -> {
            Check.letter("a clash", x.strike(20, 0), 'c');
            Check.letter("jammed", x.strike(0, 1), 'j');
        }));
        Supplier<TypebarWorks> locked = behind(States::unshifted, x -> x.margins(0, 1, 0));
        Probe.alike("a locked one, or a jammed one", behind(locked, x -> {
            Check.letter("locked", x.strike(5, 0), 'm');
            Check.letter("a dead one", x.strike(20, 50), 'p');
            Check.letter("a clash", x.strike(23, 0), 'c');
        }), behind(locked, x -> {
            Check.letter("a dead one", x.strike(20, 50), 'p');
            Check.letter("a clash", x.strike(23, 0), 'c');
            Check.letter("jammed", x.strike(5, 0), 'j');
        }));
    }

    /** No stroke, whatever becomes of it, changes a setting. */
    private static void settingsStay() {
        int[][] strokes = {{0, 50, 'p'}, {0, 1, 'b'}, {5, 20, 's'}, {20, 20, 's'}, {23, 0, 'c'}, {1, 9, 'j'}};
        TypebarWorks x = States.busy();
        changeSettings(x);
        x.carriage(99, 1);
        x.half();
        for (int[] stroke : strokes) {
            String what = " behind '" + (char) stroke[2] + "' of " + stroke[0];
            Check.letter("a stroke" + what, x.strike(stroke[0], stroke[1]), (char) stroke[2]);
            settingsAre(what, x);
        }
        x.free();
        x.margins(4, 5, 8);
        x.page();
        x.half();
        Check.letter("locked", x.strike(0, 50), 'm');
        Check.same("not released by a locked stroke", x.release(), false);
        x.margins(4, 70, 8);
        settingsAre(" behind 'm'", x);
    }

    private static void settingsAre(String what, TypebarWorks x) {
        Check.same("up" + what, x.align(0, 2, 2, 2), 2);
        Check.same("rise" + what, x.speed(0, 6, 7), 6);
        Check.same("escape" + what, x.escapeBits(), Float.floatToIntBits(119.0f));
        Check.same("right margin" + what, x.margins(4, 70, 8), 70);
        Check.same("stop" + what, x.stop(62, true), true);
        Check.same("stop at first" + what, x.stop(61, false), false);
        Check.same("line space" + what, x.lines(4), 4);
        Check.same("level" + what, x.level(-2), -2);
        Check.same("shift" + what, x.shift(true), true);
        Check.letter("colour" + what, x.colour('r'), 'r');
    }

    /** "Creates a machine": what is done with another one is nothing to it. */
    private static void anotherMachine() {
        Probe.alike("a machine beside another one", () -> {
            TypebarWorks x = new TypebarWorks();
            States.busy();
            return x;
        }, TypebarWorks::new);
        Probe.unchanged("another machine", States::busy, x -> changeAll(States.busy()));
    }
}
