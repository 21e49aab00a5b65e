import java.util.NoSuchElementException;

/** Promises 1 to 7: a new object, bars, their slugs, speeds and wear. */
public final class BarsTest {
    private static final Class<IndexOutOfBoundsException> INDEX = IndexOutOfBoundsException.class;
    private static final Class<IllegalArgumentException> ARGUMENT = IllegalArgumentException.class;
    private static final Class<UnsupportedOperationException> UNSUPPORTED = UnsupportedOperationException.class;
    private static final Class<NoSuchElementException> NONE = NoSuchElementException.class;

    public static void main(String[] args) {
        newObject();
        bar();
        dead();
        align();
        solder();
        speed();
        wear();
        Check.end();
    }

    private static void newObject() {
        TypebarWorks x = new TypebarWorks();
        Check.same("1: now", x.now(), 0);
        Check.same("1: marks", x.marks(), 0);
        Check.same("1: column", x.column(), 0);
        Check.same("1: rest", x.rest(), 0);
        Check.same("1: rings", x.rings(), 0);
        Check.same("1: cell", x.cell(), 0);
        Check.same("1: checksum", x.checksum(), 7 * 31 * 31);
        Check.same("1: isTrue", x.isTrue(), true);
        for (int place = 0; place < 24; place++) {
            int at = place;
            Check.fails("1: no bar at " + at, NONE, () -> x.wear(at));
        }
        for (int column = 0; column < 200; column++) {
            Check.same("1: no stop at " + column, x.stop(column, false), false);
        }
        for (int cell = 0; cell < 40; cell++) {
            Check.same("1: black at " + cell, x.ink(cell, 'k'), 9);
            Check.same("1: red at " + cell, x.ink(cell, 'r'), 9);
        }
        Check.same("1: release", x.release(), false);
        Check.same("1: shift", x.shift(false), false);
        Check.same("1: level", x.level(0), 0);
        Check.same("1: lines", x.lines(2), 2);
        Check.letter("1: colour", x.colour('k'), 'k');
        Check.same("1: ribbon", x.ribbon(40), 40);
        Check.same("1: margins", x.margins(0, 160, 10), 160);
        Check.same("1: free", x.free(), false);
        Check.same("1: roll", x.roll(0), 0);
        Check.same("1: page", x.page(), 0);
        Check.same("1: sample", x.sample(), 0);
    }

    private static void bar() {
        TypebarWorks x = new TypebarWorks();
        Check.same("2: first", x.bar(0, '!', '~'), false);
        Check.same("2: last place", x.bar(19, 'a', 'A'), false);
        Check.same("2: once more", x.bar(19, 'b', 'B'), true);
        Check.fails("2: place -1", INDEX, () -> x.bar(-1, (char) 32, 'A'));
        Check.fails("2: place 24", INDEX, () -> x.bar(24, 'a', 'A'));
        Check.fails("2: lower 32", ARGUMENT, () -> x.bar(1, (char) 32, 'A'));
        Check.fails("2: lower 127", ARGUMENT, () -> x.bar(1, (char) 127, 'A'));
        Check.fails("2: upper 32", ARGUMENT, () -> x.bar(1, 'a', (char) 32));
        Check.fails("2: upper 127", ARGUMENT, () -> x.bar(1, 'a', (char) 127));
        Check.fails("2: sign ahead of kind", ARGUMENT, () -> x.bar(20, 'a', (char) 0xffff));
        Check.fails("2: place 20", UNSUPPORTED, () -> x.bar(20, 'a', 'A'));
        Check.fails("2: place 23", UNSUPPORTED, () -> x.bar(23, 'a', 'A'));
        Check.fails("2: nothing put at 1", NONE, () -> x.wear(1));
        Check.fails("2: nothing put at 20", NONE, () -> x.wear(20));
        x.strike(19, 0);
        Check.same("2: sign of the later bar", x.mark(0, 's'), 'b');
    }

    private static void dead() {
        TypebarWorks x = new TypebarWorks();
        Check.same("3: first", x.dead(20, '^', '~'), false);
        Check.same("3: last place", x.dead(23, '!', '!'), false);
        Check.same("3: once more", x.dead(20, '"', '#'), true);
        Check.fails("3: place -1", INDEX, () -> x.dead(-1, 'a', 'A'));
        Check.fails("3: place 24", INDEX, () -> x.dead(24, (char) 10, 'A'));
        Check.fails("3: lower 32", ARGUMENT, () -> x.dead(21, (char) 32, 'A'));
        Check.fails("3: upper 127", ARGUMENT, () -> x.dead(21, 'a', (char) 127));
        Check.fails("3: sign ahead of kind", ARGUMENT, () -> x.dead(0, (char) 32, 'A'));
        Check.fails("3: place 19", UNSUPPORTED, () -> x.dead(19, 'a', 'A'));
        Check.fails("3: place 0", UNSUPPORTED, () -> x.dead(0, 'a', 'A'));
        Check.fails("3: nothing put at 21", NONE, () -> x.wear(21));
        Check.letter("3: prints", x.strike(20, 0), 'p');
        Check.same("3: without a move", x.column(), 0);
        Check.same("3: and at rest", x.rest(), 0);
        Check.same("3: its sign", x.mark(0, 's'), '"');
    }

    private static void align() {
        TypebarWorks x = new TypebarWorks();
        x.bar(0, 'a', 'A');
        Check.same("4: up at first", x.align(0, 3, -3, 2), 0);
        x.strike(0, 0);
        Check.same("4: up", x.mark(0, 'u'), 3);
        Check.same("4: side", x.mark(0, 'x'), -3);
        Check.same("4: twist", x.mark(0, 't'), 2);
        Check.same("4: up before", x.align(0, -3, 3, -3), 3);
        Check.fails("4: place 24", INDEX, () -> x.align(24, 4, 0, 0));
        Check.fails("4: place -1", INDEX, () -> x.align(-1, 0, 0, 0));
        Check.fails("4: up 4", ARGUMENT, () -> x.align(0, 4, 0, 0));
        Check.fails("4: up -4", ARGUMENT, () -> x.align(0, -4, 0, 0));
        Check.fails("4: side 4", ARGUMENT, () -> x.align(0, 0, 4, 0));
        Check.fails("4: side -4", ARGUMENT, () -> x.align(0, 0, -4, 0));
        Check.fails("4: twist 4", ARGUMENT, () -> x.align(0, 0, 0, 4));
        Check.fails("4: twist -4", ARGUMENT, () -> x.align(1, 0, 0, -4));
        Check.fails("4: no bar", NONE, () -> x.align(1, 0, 0, 0));
        x.strike(0, 50);
        Check.same("4: up stayed", x.mark(1, 'u'), -3);
        Check.same("4: side stayed", x.mark(1, 'x'), 3);
        Check.same("4: twist stayed", x.mark(1, 't'), -3);
        x.bar(0, 'a', 'A');
        Check.same("4: a new bar is at 0", x.align(0, 0, 0, 0), 0);
    }

    private static void solder() {
        TypebarWorks x = new TypebarWorks();
        x.bar(0, 'a', 'A');
        x.align(0, 1, 2, 3);
        x.speed(0, 7, 8);
        x.strike(0, 50);
        x.strike(0, 50);
        Check.same("5: wear before", x.solder(0), 2);
        Check.same("5: wear", x.wear(0), 0);
        Check.same("5: again", x.solder(0), 0);
        Check.same("5: rise stays", x.speed(0, 7, 8), 7);
        x.strike(0, 50);
        Check.letter("5: fall stays", x.strike(0, 14), 'b');
        Check.same("5: up", x.mark(2, 'u'), 0);
        Check.same("5: side", x.mark(2, 'x'), 0);
        Check.same("5: twist", x.mark(2, 't'), 0);
        Check.fails("5: place -1", INDEX, () -> x.solder(-1));
        Check.fails("5: place 24", INDEX, () -> x.solder(24));
        Check.fails("5: no bar", NONE, () -> x.solder(23));
    }

    private static void speed() {
        TypebarWorks x = new TypebarWorks();
        x.bar(0, 'a', 'A');
        Check.same("6: at first", x.speed(0, 2, 9), 4);
        Check.same("6: before", x.speed(0, 9, 2), 2);
        Check.fails("6: place 24", INDEX, () -> x.speed(24, 1, 1));
        Check.fails("6: place -1", INDEX, () -> x.speed(-1, 4, 4));
        Check.fails("6: rise 1", ARGUMENT, () -> x.speed(0, 1, 4));
        Check.fails("6: rise 10", ARGUMENT, () -> x.speed(0, 10, 4));
        Check.fails("6: fall 1", ARGUMENT, () -> x.speed(0, 4, 1));
        Check.fails("6: fall 10", ARGUMENT, () -> x.speed(1, 4, 10));
        Check.fails("6: no bar", NONE, () -> x.speed(1, 4, 4));
        x.strike(0, 0);
        Check.same("6: rises in 9", x.rest(), 12);
        Check.letter("6: not home at 10", x.strike(0, 10), 'b');
        Check.letter("6: home at 11", x.strike(0, 1), 'p');
        x.bar(0, 'a', 'A');
        Check.same("6: a new bar rises in 4", x.speed(0, 4, 4), 4);
    }

    private static void wear() {
        TypebarWorks x = new TypebarWorks();
        x.bar(0, 'a', 'A');
        Check.same("7: at first", x.wear(0), 0);
        x.strike(0, 0);
        Check.same("7: printed", x.wear(0), 1);
        Check.letter("7: not home", x.strike(0, 1), 'b');
        Check.same("7: not printed", x.wear(0), 1);
        x.bar(0, 'a', 'A');
        Check.same("7: a new bar", x.wear(0), 0);
        Check.fails("7: place -1", INDEX, () -> x.wear(-1));
        Check.fails("7: place 24", INDEX, () -> x.wear(24));
        Check.fails("7: no bar", NONE, () -> x.wear(1));
    }
}
