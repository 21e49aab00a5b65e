/** Promises 41 to 44: shares, means, the checksum, and isTrue. */
public final class SumsTest {
    private static final Class<ArithmeticException> ARITHMETIC = ArithmeticException.class;

    public static void main(String[] args) {
        printShare();
        meanWear();
        checksum();
        isTrue();
        Check.end();
    }

    private static void share(String what, TypebarWorks x, int prints, int strokes) {
        Check.same(what, Float.floatToIntBits(x.printShare()), Float.floatToIntBits((float) prints / (float) strokes));
    }

    private static void printShare() {
        TypebarWorks x = new TypebarWorks();
        Check.fails("41: none", ARITHMETIC, x::printShare);
        Check.fails("41: no bar", java.util.NoSuchElementException.class, () -> x.strike(0, 5));
        Check.fails("41: refused ones don't count", ARITHMETIC, x::printShare);
        x.bar(0, 'a', 'A');
        x.bar(5, 'b', 'B');
        x.strike(0, 5);
        share("41: one", x, 1, 1);
        x.strike(0, 5);
        share("41: not home", x, 1, 2);
        x.carriage(99, 1);
        x.strike(0, 20);
        x.strike(5, 20);
        share("41: a skip", x, 2, 4);
        x.strike(0, 1);
        share("41: a clash", x, 2, 5);
        x.strike(0, 1);
        share("41: jammed", x, 2, 6);
        x.free();
        x.margins(0, 2, 0);
        x.strike(0, 1);
        share("41: locked", x, 2, 7);
        x.page();
        share("41: of all pages", x, 2, 7);
    }

    private static void meanWear() {
        TypebarWorks x = new TypebarWorks();
        Check.fails("42: none", ARITHMETIC, x::meanWearBits);
        x.bar(0, 'a', 'A');
        Check.same("42: 0", x.meanWearBits(), 0);
        x.margins(0, 199, 0);
        int sum = 0;
        for (int place = 20; place < 24; place++) {
            x.dead(place, '^', '~');
            for (int round = 0; round < 11; round++) {
                x.strike(place, 20);
                sum++;
                Check.same("42: mean of " + sum, x.meanWearBits(),
                        Double.doubleToLongBits((double) sum / (double) (place - 18)));
            }
        }
        x.solder(20);
        Check.same("42: soldered", x.meanWearBits(), Double.doubleToLongBits(33.0 / 5.0));
        x.bar(19, 'b', 'B');
        Check.same("42: one more", x.meanWearBits(), Double.doubleToLongBits(33.0 / 6.0));
    }

    private static void checksum() {
        TypebarWorks x = new TypebarWorks();
        Check.same("43: at first", x.checksum(), 7L * 31 * 31);
        x.bar(3, 'a', 'A');
        Check.same("43: a bar", x.checksum(), 7L * 31 * 31 * 31);
        x.dead(21, '^', '~');
        x.space();
        Check.same("43: the carriage", x.checksum(), (7L * 31 * 31 * 31 + 2) * 31);
        x.roll(5);
        x.strike(3, 50);
        x.strike(21, 50);
        x.strike(21, 50);
        long due = 7;
        int[] all = {10, 2, 'a', 9, 10, 4, '^', 9, 10, 4, '^', 9, 1, 2, 4, 3};
        for (int number : all) {
            due = 31 * due + number;
        }
        Check.same("43: marks, bars, carriage, ribbon", x.checksum(), due);
        x.page();
        x.bar(0, 'a', 'A');
        x.dead(23, '"', '`');
        x.strike(0, 50);
        x.strike(23, 50);
        x.page();
        Check.same("43: the first and the last place", x.checksum(),
                (((((7L * 31 + 1) * 31 + 1) * 31 + 2) * 31 + 1) * 31 + 0) * 31 + 5);
    }

    private static void isTrue() {
        TypebarWorks x = new TypebarWorks();
        Check.same("44: at first", x.isTrue(), true);
        x.dead(20, '^', '~');
        x.ribbon(2);
        x.align(20, 3, 3, 3);
        for (int index = 0; index < 70; index++) {
            x.colour(index % 5 == 0 ? '-' : index % 2 == 0 ? 'k' : 'r');
            x.strike(20, 20);
            Check.same("44: behind " + index, x.isTrue(), true);
        }
        Check.same("44: as far as can be", x.mark(59, 'x'), 6);
        x.ribbon(99);
        Check.same("44: a new ribbon", x.isTrue(), true);
        x.page();
        x.align(20, -3, -3, -3);
        x.solder(20);
        x.align(20, -3, -3, -3);
        x.strike(20, 20);
        Check.same("44: the other side", x.isTrue(), true);
        Check.same("44: as far as can be there", x.mark(0, 'x'), -3);
        x.lines(3);
        x.home();
        for (int index = 0; index < 6; index++) {
            x.roll(30);
        }
        x.roll(15);
        x.stop(199, true);
        x.tab();
        x.strike(20, 20);
        Check.same("44: the last sixth", x.mark(1, 'r'), 399);
        Check.same("44: the last half step", x.mark(1, 'c'), 199);
        Check.same("44: within the page", x.isTrue(), true);
    }
}
