import java.util.function.Consumer;

/** Machines that the tests of the edges begin with, and ways to bring them to an edge. */
final class Machines {
    static final int[] FAR_OFF = {Integer.MIN_VALUE, Integer.MIN_VALUE + 1, -1000, 1000, Integer.MAX_VALUE};

    private Machines() {
    }

    /** Plain bars at 0, 1, 5 and 19, dead ones at 20 and 23; an escape takes 1 tick, and the margins are wide. */
    static TypebarWorks withBars() {
        TypebarWorks x = new TypebarWorks();
        x.bar(0, 'a', 'A');
        x.bar(1, 'b', 'B');
        x.bar(5, 'c', 'C');
        x.bar(19, 'd', 'D');
        x.dead(20, '^', '~');
        x.dead(23, '"', '`');
        x.carriage(0, 50);
        x.margins(0, 199, 0);
        return x;
    }

    /** Goes on to a half step that does not lie below, by a stop for this alone. */
    static void goUpTo(TypebarWorks x, int column) {
        boolean was = x.stop(column, true);
        while (x.column() < column) {
            x.tab();
        }
        Check.same("goes to " + column, x.column(), column);
        x.stop(column, was);
    }

    static TypebarWorks at(int column) {
        TypebarWorks x = withBars();
        goUpTo(x, column);
        return x;
    }

    /** Rolls the platen of a new machine to a sixth: an even one, or one from 9 on. */
    static TypebarWorks rolledTo(int sixth) {
        TypebarWorks x = withBars();
        int rolled = 0;
        if (sixth % 2 != 0) {
            x.lines(3);
            rolled = x.home();
        }
        while (rolled < sixth) {
            rolled = x.roll(Math.min(30, (sixth - rolled) / 2));
        }
        Check.same("rolled to " + sixth, rolled, sixth);
        return x;
    }

    /** What a call did: "" if it went through, otherwise the name of what it threw. */
    static String thrownBy(TypebarWorks x, Consumer<TypebarWorks> call) {
        try {
            call.accept(x);
            return "";
        } catch (RuntimeException e) {
            return e.getClass().getSimpleName();
        }
    }

    /** Looks that a call goes through exactly if that is due, and throws the named one otherwise. */
    static void allows(String what, TypebarWorks x, boolean due, String thrown, Consumer<TypebarWorks> call) {
        Check.text(what, thrownBy(x, call), due ? "" : thrown);
    }
}
