import java.util.ArrayList;
import java.util.List;
import java.util.function.Consumer;
import java.util.function.Supplier;

/** Reads machines out by their answers alone, in many ways, so that a call that changed something is found. */
final class Probe {
    private static final int[] PLACES = {0, 1, 5, 19, 20, 23};
    private static final int LONGEST_WAIT = 14;
    private static final String THINGS = "rcsuxtik";
    private static final List<Consumer<Reader>> WAYS = ways();

    private Probe() {
    }

    /** A machine, with what its calls answered so far. */
    private static final class Reader {
        final TypebarWorks x;
        final StringBuilder seen = new StringBuilder();

        Reader(TypebarWorks x) {
            this.x = x;
        }

        void note(Supplier<Object> call) {
            try {
                seen.append(call.get());
            } catch (RuntimeException e) {
                seen.append(e.getClass().getSimpleName());
            }
            seen.append(' ');
        }
    }

    /** Looks that a machine for which a call was refused answers, in each way, as one without that call. */
    static void unchanged(String what, Supplier<TypebarWorks> made, Consumer<TypebarWorks> refused) {
        alike(what, () -> {
            TypebarWorks touched = made.get();
            Machines.thrownBy(touched, refused);
            return touched;
        }, made);
    }

    /** Looks that two machines answer alike in each way. */
    static void alike(String what, Supplier<TypebarWorks> one, Supplier<TypebarWorks> other) {
        for (int way = 0; way < WAYS.size(); way++) {
            Check.text(what + ", way " + way, read(one.get(), WAYS.get(way)), read(other.get(), WAYS.get(way)));
        }
    }

    private static String read(TypebarWorks x, Consumer<Reader> way) {
        Reader reader = new Reader(x);
        way.accept(reader);
        return reader.seen.toString();
    }

    // each way stays so short that a machine is used for fewer than 512 calls
    private static List<Consumer<Reader>> ways() {
        List<Consumer<Reader>> all = new ArrayList<>();
        all.add(Probe::looks);
        all.add(Probe::settings);
        all.add(Probe::slugs);
        all.add(Probe::ink);
        all.add(Probe::stops);
        all.add(Probe::moves);
        all.add(Probe::bell);
        all.add(Probe::bellFurtherOn);
        all.add(Probe::samples);
        all.add(Probe::falls);
        all.add(Probe::likenesses);
        all.add(r -> r.note(r.x::home));
        for (int index = 0; index < THINGS.length(); index++) {
            char thing = THINGS.charAt(index);
            all.add(r -> marks(r, thing));
        }
        for (int place : PLACES) {
            all.add(r -> freed(r, place));
            for (int wait = 0; wait <= LONGEST_WAIT; wait++) {
                int ticks = wait;
                all.add(r -> stroke(r, place, ticks));
            }
        }
        return all;
    }

    private static void looks(Reader r) {
        TypebarWorks x = r.x;
        r.note(x::isTrue);
        r.note(x::checksum);
        for (int place = 0; place < 24; place++) {
            int at = place;
            r.note(() -> x.wear(at));
        }
        r.note(x::escapeBits);
        r.note(x::rest);
        r.note(x::rings);
        r.note(x::column);
        r.note(x::cell);
        r.note(x::now);
        r.note(x::marks);
        r.note(x::pitch);
        r.note(x::whose);
        r.note(x::printShare);
        r.note(x::meanWearBits);
        for (char sign : "aAbBcCdD^~\"`zZ".toCharArray()) {
            r.note(() -> x.cause(sign));
        }
        for (int number = 0; number < 4; number++) {
            int at = number;
            r.note(() -> x.likenessBits(at));
        }
    }

    private static void settings(Reader r) {
        TypebarWorks x = r.x;
        r.note(() -> x.margins(0, 199, 0));
        r.note(x::release);
        r.note(() -> x.roll(0));
        r.note(() -> x.lines(2));
        r.note(() -> x.ribbon(2));
        r.note(() -> x.colour('k'));
        r.note(() -> x.shift(false));
        r.note(() -> x.level(0));
        r.note(x::free);
        r.note(x::page);
        r.note(x::rest);
        for (int place : PLACES) {
            r.note(() -> x.align(place, 0, 0, 0));
            r.note(() -> x.speed(place, 4, 4));
            r.note(() -> x.solder(place));
        }
    }

    /** Prints with each bar, lower and upper, on a new page: slugs, wear, the level, the ribbon's way. */
    private static void slugs(Reader r) {
        TypebarWorks x = r.x;
        x.free();
        x.page();
        for (int round = 0; round < 2; round++) {
            for (int place : PLACES) {
                r.note(() -> x.strike(place, 99));
                r.note(x::cell);
            }
            r.note(() -> x.shift(true));
        }
        for (int index = 0; index < x.marks(); index++) {
            int at = index;
            for (char thing : THINGS.toCharArray()) {
                r.note(() -> x.mark(at, thing));
            }
        }
    }

    private static void ink(Reader r) {
        for (int cell = -1; cell < 100; cell++) {
            int at = cell;
            r.note(() -> r.x.ink(at, 'k'));
            r.note(() -> r.x.ink(at, 'r'));
        }
    }

    private static void stops(Reader r) {
        for (int column = 0; column < 200; column++) {
            int at = column;
            r.note(() -> r.x.stop(at, false));
        }
    }

    private static void moves(Reader r) {
        TypebarWorks x = r.x;
        r.note(x::half);
        r.note(x::rest);
        r.note(x::space);
        r.note(x::back);
        r.note(x::home);
        r.note(x::column);
        r.note(() -> x.decimal(2));
        r.note(x::tab);
        r.note(x::tab);
        r.note(x::home);
        r.note(x::release);
    }

    private static void bell(Reader r) {
        r.x.page();
        ringBy(r, 100);
    }

    private static void bellFurtherOn(Reader r) {
        r.x.page();
        for (int step = 0; step < 47; step++) {
            r.note(r.x::space);
        }
        ringBy(r, 104);
    }

    private static void ringBy(Reader r, int halfSteps) {
        for (int step = 0; step < halfSteps; step++) {
            r.note(r.x::half);
            r.note(r.x::rings);
        }
    }

    private static void samples(Reader r) {
        for (int number = 0; number < 5; number++) {
            r.note(r.x::sample);
        }
    }

    /** Prints with each bar and strikes it tick by tick until it is home. */
    private static void falls(Reader r) {
        TypebarWorks x = r.x;
        x.free();
        x.page();
        for (int place : PLACES) {
            r.note(() -> x.strike(place, 99));
            for (int tick = 0; tick < 19; tick++) {
                r.note(() -> x.strike(place, 1));
            }
        }
    }

    /** Prints each sign as it is on the samples, to tell of which signs these are, and how they stand there. */
    private static void likenesses(Reader r) {
        TypebarWorks x = r.x;
        x.free();
        x.level(0);
        x.shift(false);
        for (int round = 0; round < 2; round++) {
            for (int place : PLACES) {
                x.page();
                r.note(() -> x.solder(place));
                r.note(() -> x.align(place, -1, 2, 0));
                r.note(() -> x.strike(place, 99));
                for (int number = 0; number < 4; number++) {
                    int at = number;
                    r.note(() -> x.likenessBits(at));
                }
                r.note(x::whose);
            }
            r.note(() -> x.shift(true));
        }
    }

    private static void marks(Reader r, char thing) {
        for (int index = 0; index <= 60; index++) {
            int at = index;
            r.note(() -> r.x.mark(at, thing));
        }
    }

    /** Strikes a bar at once: jams, locks, clashes, skips, and bars that are not home. */
    private static void stroke(Reader r, int place, int wait) {
        TypebarWorks x = r.x;
        r.note(() -> x.strike(place, wait));
        r.note(x::now);
        r.note(x::column);
        r.note(x::rest);
        r.note(x::marks);
        r.note(x::rings);
        r.note(x::printShare);
        r.note(x::checksum);
    }

    private static void freed(Reader r, int place) {
        TypebarWorks x = r.x;
        r.note(x::free);
        r.note(() -> x.strike(place, 0));
        r.note(x::column);
        r.note(x::rest);
        r.note(x::printShare);
    }
}
