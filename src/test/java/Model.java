import java.util.ArrayList;
import java.util.List;
import java.util.NoSuchElementException;
import java.util.SortedMap;
import java.util.TreeMap;
import java.util.TreeSet;

/**
 * The machine once more, written from the document by itself: it keeps what happened, and works each answer out of
 * that. ModelTest compares both.
 */
final class Model {
    /** A bar, with the number of the stroke since which it wears. */
    private static final class Bar {
        final char lower;
        final char upper;
        int up;
        int side;
        int twist;
        int rise = 4;
        int fall = 4;
        int wearsSince;

        Bar(char lower, char upper, int wearsSince) {
            this.lower = lower;
            this.upper = upper;
            this.wearsSince = wearsSince;
        }
    }

    /** A stroke that was not refused. */
    private record Stroke(Bar bar, int place, int tick, int rise, int fall, char became) {
        int printTick() {
            return tick + rise;
        }

        boolean rose() {
            return became == 'p' || became == 's' || became == 'c';
        }
    }

    /** What a print took from the ribbon. */
    private record Take(int cell, char colour, int strength) {
    }

    private record Mark(int sixth, int place, char sign, int up, int side, int twist, int strength, char colour) {
    }

    private record Typical(int up, int side) {
    }

    private final TreeMap<Integer, Bar> bars = new TreeMap<>();
    private final List<Stroke> strokes = new ArrayList<>();
    private int freedAt;
    private int load = 10;
    private int spring = 10;
    private int place;
    private int restTick;
    private int left;
    private int right = 160;
    private int bell = 10;
    private boolean released;
    private int rung;
    private final TreeSet<Integer> stops = new TreeSet<>();
    private int platen;
    private int halves = 2;
    private int cells = 40;
    private final List<Take> takes = new ArrayList<>();
    private char letter = 'k';
    private boolean shifted;
    private int level;
    private final List<Mark> page = new ArrayList<>();
    private final List<SortedMap<Character, Typical>> samples = new ArrayList<>();

    private static void argument(boolean holds) {
        if (!holds) {
            throw new IllegalArgumentException();
        }
    }

    private static void index(boolean holds) {
        if (!holds) {
            throw new IndexOutOfBoundsException();
        }
    }

    private static void supported(boolean holds) {
        if (!holds) {
            throw new UnsupportedOperationException();
        }
    }

    private static void element(boolean holds) {
        if (!holds) {
            throw new NoSuchElementException();
        }
    }

    private static boolean isIn(int number, int least, int most) {
        return least <= number && number <= most;
    }

    // Bars

    boolean bar(int at, char lower, char upper) {
        return put(at, lower, upper, at < 20);
    }

    boolean dead(int at, char lower, char upper) {
        return put(at, lower, upper, at >= 20);
    }

    private boolean put(int at, char lower, char upper, boolean fits) {
        index(isIn(at, 0, 23));
        argument(isIn(lower, 33, 126) && isIn(upper, 33, 126));
        supported(fits);
        return bars.put(at, new Bar(lower, upper, strokes.size())) != null;
    }

    int align(int at, int up, int side, int twist) {
        index(isIn(at, 0, 23));
        argument(isIn(up, -3, 3) && isIn(side, -3, 3) && isIn(twist, -3, 3));
        element(bars.containsKey(at));
        Bar bar = bars.get(at);
        int before = bar.up;
        bar.up = up;
        bar.side = side;
        bar.twist = twist;
        return before;
    }

    int solder(int at) {
        int before = wear(at);
        Bar bar = bars.get(at);
        bar.up = 0;
        bar.side = 0;
        bar.twist = 0;
        bar.wearsSince = strokes.size();
        return before;
    }

    int speed(int at, int rise, int fall) {
        index(isIn(at, 0, 23));
        argument(isIn(rise, 2, 9) && isIn(fall, 2, 9));
        element(bars.containsKey(at));
        Bar bar = bars.get(at);
        int before = bar.rise;
        bar.rise = rise;
        bar.fall = fall;
        return before;
    }

    int wear(int at) {
        index(isIn(at, 0, 23));
        element(bars.containsKey(at));
        return wearOf(bars.get(at));
    }

    private int wearOf(Bar bar) {
        List<Stroke> since = strokes.subList(bar.wearsSince, strokes.size());
        return (int) since.stream().filter(s -> s.bar() == bar && s.became() == 'p').count();
    }

    // Carriage and margins

    int carriage(int newLoad, int newSpring) {
        argument(isIn(newLoad, 0, 99) && isIn(newSpring, 1, 50));
        load = newLoad;
        spring = newSpring;
        return escape();
    }

    private int escape() {
        return (20 + load + spring - 1) / spring;
    }

    int escapeBits() {
        return Float.floatToIntBits((20.0f + load) / spring);
    }

    int rest() {
        return Math.max(0, restTick - now());
    }

    int margins(int newLeft, int newRight, int newBell) {
        argument(newLeft >= 0 && newLeft < newRight && newRight <= 199 && isIn(newBell, 0, 30));
        int before = right;
        left = newLeft;
        right = newRight;
        bell = newBell;
        return before;
    }

    boolean release() {
        boolean before = released;
        released = true;
        return before;
    }

    int rings() {
        return rung;
    }

    private boolean isLocked() {
        return place >= right && !released;
    }

    // Moves

    boolean stop(int column, boolean is) {
        argument(isIn(column, 0, 199));
        return is ? !stops.add(column) : stops.remove(column);
    }

    int tab() {
        element(stops.higher(place) != null);
        return goTo(stops.higher(place));
    }

    int decimal(int digits) {
        argument(isIn(digits, 0, 9));
        Integer next = stops.higher(place);
        element(next != null && next - 2 * digits > place);
        return goTo(next - 2 * digits);
    }

    private int goTo(int target) {
        place = target;
        restTick = now();
        return target;
    }

    private void goOn(int by) {
        boolean wasBelow = place < right - bell;
        place += by;
        if (wasBelow && place >= right - bell) {
            rung++;
        }
    }

    private int spaceOf(int by) {
        if (isLocked()) {
            throw new IllegalStateException();
        }
        supported(place + by <= 199);
        goOn(by);
        return goTo(place);
    }

    int space() {
        return spaceOf(2);
    }

    int half() {
        return spaceOf(1);
    }

    int back() {
        supported(place >= 2);
        return goTo(place - 2);
    }

    int home() {
        supported(platen + 3 * halves <= 399);
        platen += 3 * halves;
        released = false;
        goTo(left);
        return platen;
    }

    int roll(int thirds) {
        argument(isIn(thirds, -30, 30));
        supported(isIn(platen + 2 * thirds, 0, 399));
        platen += 2 * thirds;
        return platen;
    }

    int lines(int newHalves) {
        argument(isIn(newHalves, 2, 4));
        int before = halves;
        halves = newHalves;
        return before;
    }

    int column() {
        return place;
    }

    // Ribbon and shift

    int ribbon(int newCells) {
        argument(isIn(newCells, 2, 99));
        int before = cells;
        cells = newCells;
        takes.clear();
        return before;
    }

    char colour(char newLetter) {
        argument("kr-".indexOf(newLetter) >= 0);
        char before = letter;
        letter = newLetter;
        return before;
    }

    int ink(int cell, char colour) {
        index(isIn(cell, 0, cells - 1));
        argument(colour == 'k' || colour == 'r');
        return inkOf(cell, colour);
    }

    private int inkOf(int cell, char colour) {
        return 9 - (int) takes.stream()
                .filter(t -> t.cell() == cell && t.colour() == colour && t.strength() > 0).count();
    }

    int cell() {
        int round = takes.size() % (2 * cells);
        return round < cells ? round : 2 * cells - 1 - round;
    }

    boolean shift(boolean is) {
        boolean before = shifted;
        shifted = is;
        return before;
    }

    int level(int up) {
        argument(isIn(up, -3, 3));
        int before = level;
        level = up;
        return before;
    }

    // Strokes

    char strike(int at, int wait) {
        index(isIn(at, 0, 23));
        argument(isIn(wait, 0, 99));
        element(bars.containsKey(at));
        Bar bar = bars.get(at);
        int tick = now() + wait;
        char became = becomes(bar, at, tick);
        boolean steps = at < 20 && (became == 'p' || became == 's');
        supported(!steps || place <= 197);
        if (became == 'p') {
            print(bar);
        }
        Stroke stroke = new Stroke(bar, at, tick, bar.rise, bar.fall, became);
        strokes.add(stroke);
        if (steps) {
            goOn(2);
            restTick = stroke.printTick() + escape();
        }
        return became;
    }

    private char becomes(Bar bar, int at, int tick) {
        List<Stroke> sinceFreed = strokes.subList(freedAt, strokes.size());
        if (sinceFreed.stream().anyMatch(s -> s.became() == 'c')) {
            return 'j';
        }
        if (at < 20 && isLocked()) {
            return 'm';
        }
        if (sinceFreed.stream().anyMatch(s -> s.bar() == bar && s.rose() && tick - s.tick() < s.rise() + s.fall())) {
            return 'b';
        }
        int printTick = tick + bar.rise;
        Stroke last = null;
        for (Stroke stroke : sinceFreed) {
            last = stroke.became() == 'p' || stroke.became() == 's' ? stroke : last;
        }
        if (last != null && printTick <= last.printTick() + (Math.abs(at - last.place()) == 1 ? 4 : 2)) {
            return 'c';
        }
        return printTick >= restTick ? 'p' : 's';
    }

    private void print(Bar bar) {
        int strength = letter == '-' ? 0 : inkOf(cell(), letter);
        if (page.size() < 60) {
            page.add(new Mark(platen, place, shifted ? bar.upper : bar.lower, shifted ? bar.up + level : bar.up,
                    bar.side + Math.min(3, wearOf(bar) / 10), bar.twist, strength, letter));
        }
        if (letter != '-') {
            takes.add(new Take(cell(), letter, strength));
        }
    }

    boolean free() {
        boolean before = strokes.subList(freedAt, strokes.size()).stream().anyMatch(s -> s.became() == 'c');
        freedAt = strokes.size();
        return before;
    }

    int now() {
        return strokes.isEmpty() ? 0 : strokes.get(strokes.size() - 1).tick();
    }

    // Pages

    int page() {
        int before = page.size();
        page.clear();
        platen = 0;
        released = false;
        goTo(left);
        return before;
    }

    int marks() {
        return page.size();
    }

    int mark(int number, char what) {
        index(isIn(number, 0, page.size() - 1));
        Mark mark = page.get(number);
        return switch (what) {
            case 'r' -> mark.sixth();
            case 'c' -> mark.place();
            case 's' -> mark.sign();
            case 'u' -> mark.up();
            case 'x' -> mark.side();
            case 't' -> mark.twist();
            case 'i' -> mark.strength();
            case 'k' -> mark.colour();
            default -> throw new IllegalArgumentException();
        };
    }

    int pitch() {
        for (int pitch = 199; pitch > 0; pitch--) {
            if (dividesAll(pitch)) {
                return pitch;
            }
        }
        throw new NoSuchElementException();
    }

    /** Whether a number divides all differences, and one of them is above 0. */
    private boolean dividesAll(int number) {
        boolean isAny = false;
        for (Mark one : page) {
            for (Mark other : page) {
                if (one.sixth() == other.sixth()) {
                    isAny |= one.place() != other.place();
                    if ((one.place() - other.place()) % number != 0) {
                        return false;
                    }
                }
            }
        }
        return isAny;
    }

    private static int mostOften(List<Integer> numbers) {
        int best = 0;
        long most = 0;
        for (int number = -9; number <= 9; number++) {
            int looked = number;
            long times = numbers.stream().filter(n -> n == looked).count();
            if (times > most) {
                most = times;
                best = number;
            }
        }
        return best;
    }

    private SortedMap<Character, Typical> typical() {
        SortedMap<Character, Typical> all = new TreeMap<>();
        for (Mark mark : page) {
            List<Mark> same = page.stream().filter(m -> m.sign() == mark.sign()).toList();
            all.put(mark.sign(), new Typical(mostOften(same.stream().map(Mark::up).toList()),
                    mostOften(same.stream().map(Mark::side).toList())));
        }
        return all;
    }

    private Bar barOf(char sign) {
        return bars.values().stream().filter(b -> b.lower == sign || b.upper == sign).findFirst().orElse(null);
    }

    private boolean isUpper(char sign) {
        Bar bar = barOf(sign);
        return bar != null && bar.lower != sign;
    }

    char cause(char sign) {
        SortedMap<Character, Typical> all = typical();
        Bar bar = barOf(sign);
        element(all.containsKey(sign) && bar != null);
        Typical typical = all.get(sign);
        if (typical.equals(new Typical(0, 0))) {
            return '-';
        }
        if (all.containsKey(bar.lower) && all.containsKey(bar.upper)
                && all.get(bar.lower).equals(all.get(bar.upper))) {
            return 'b';
        }
        boolean areLevel = all.keySet().stream()
                .filter(this::isUpper).map(s -> all.get(s).up()).distinct().count() == 1;
        return isUpper(sign) && typical.side() == 0 && areLevel ? 'l' : 's';
    }

    // Samples and sums

    int sample() {
        if (samples.size() == 4) {
            throw new IllegalStateException();
        }
        samples.add(typical());
        return samples.size() - 1;
    }

    private float likeness(int number) {
        SortedMap<Character, Typical> here = typical();
        SortedMap<Character, Typical> there = samples.get(number);
        List<Character> both = here.keySet().stream().filter(there::containsKey).toList();
        long alike = both.stream().filter(s -> here.get(s).equals(there.get(s))).count();
        return both.isEmpty() ? 0.0f : (float) alike / (float) both.size();
    }

    int likenessBits(int number) {
        index(isIn(number, 0, samples.size() - 1));
        return Float.floatToIntBits(likeness(number));
    }

    int whose() {
        List<Integer> best = new ArrayList<>();
        float most = 0.0f;
        for (int number = 0; number < samples.size(); number++) {
            most = Math.max(most, likeness(number));
        }
        for (int number = 0; number < samples.size(); number++) {
            if (likeness(number) == most) {
                best.add(number);
            }
        }
        element(most > 0.0f && best.size() == 1);
        return best.get(0);
    }

    float printShare() {
        if (strokes.isEmpty()) {
            throw new ArithmeticException();
        }
        return (float) strokes.stream().filter(s -> s.became() == 'p').count() / (float) strokes.size();
    }

    long meanWearBits() {
        if (bars.isEmpty()) {
            throw new ArithmeticException();
        }
        int sum = bars.values().stream().mapToInt(this::wearOf).sum();
        return Double.doubleToLongBits((double) sum / (double) bars.size());
    }

    long checksum() {
        List<Integer> numbers = new ArrayList<>();
        for (Mark mark : page) {
            numbers.addAll(List.of(mark.sixth(), mark.place(), (int) mark.sign(), mark.strength()));
        }
        bars.values().forEach(b -> numbers.add(wearOf(b)));
        numbers.addAll(List.of(place, cell()));
        long sum = 7;
        for (int number : numbers) {
            sum = 31 * sum + number;
        }
        return sum;
    }

    boolean isTrue() {
        return true;
    }
}
