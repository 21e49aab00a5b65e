import java.util.NoSuchElementException;

/** A writing machine from the bar to the page that is read back. */
public final class TypebarWorks {
    private static final int PLACES = 24;
    private static final int PLAIN_PLACES = 20;
    private static final int FIRST_SIGN = 33;
    private static final int LAST_SIGN = 126;
    private static final int SIGNS = 94;
    private static final int SLUG_REACH = 3;
    private static final int LEVEL_REACH = 3;
    private static final int WEAR_REACH = 3;
    private static final int LONGEST_WAIT = 99;

    private static final int STEP = 2;
    private static final int HALF_STEPS = 200;
    private static final int SIXTHS = 400;
    private static final int SIXTHS_OF_A_HALF_LINE = 3;
    private static final int SIXTHS_OF_A_THIRD = 2;
    private static final int MOST_THIRDS = 30;

    private static final int MOST_CELLS = 99;
    private static final int FULL_INK = 9;
    private static final int MOST_SAMPLES = 4;

    private static final int MOST_MARKS = 60;
    private static final int SIXTH = 0;
    private static final int PLACE = 1;
    private static final int SIGN = 2;
    private static final int UP = 3;
    private static final int SIDE = 4;
    private static final int TWIST = 5;
    private static final int STRENGTH = 6;
    private static final int COLOUR = 7;
    private static final int THINGS = 8;

    private final Bar[] bars = new Bar[PLACES];
    private final Carriage slide = new Carriage();
    private final Ribbon tape = new Ribbon();
    private final Page sheet = new Page();
    private final Reading reading = new Reading();
    private final Reading[] samples = new Reading[MOST_SAMPLES];
    private int sampleCount;
    private int platen;
    private int lineHalves = 2;
    private boolean isShifted;
    private int shiftLevel;
    private int tick;
    private boolean isJammed;
    private boolean hasLastStroke;
    private int lastPlace;
    private int lastPrintTick;
    private int strokeCount;
    private int printCount;

    public TypebarWorks() {
    }

    public boolean bar(int place, char lower, char upper)
            throws IndexOutOfBoundsException, IllegalArgumentException, UnsupportedOperationException {
        return putBar(place, lower, upper, true);
    }

    public boolean dead(int place, char lower, char upper)
            throws IndexOutOfBoundsException, IllegalArgumentException, UnsupportedOperationException {
        return putBar(place, lower, upper, false);
    }

    public int align(int place, int up, int side, int twist)
            throws IndexOutOfBoundsException, IllegalArgumentException, NoSuchElementException {
        Bar bar = barAt(place);
        needRange(up, -SLUG_REACH, SLUG_REACH);
        needRange(side, -SLUG_REACH, SLUG_REACH);
        needRange(twist, -SLUG_REACH, SLUG_REACH);
        if (bar == null) {
            throw new NoSuchElementException("no bar is there");
        }
        int before = bar.up;
        bar.turnSlug(up, side, twist);
        return before;
    }

    public int solder(int place) throws IndexOutOfBoundsException, NoSuchElementException {
        Bar bar = barAt(place);
        if (bar == null) {
            throw new NoSuchElementException("no bar is there");
        }
        int before = bar.worn;
        bar.turnSlug(0, 0, 0);
        bar.worn = 0;
        return before;
    }

    public int speed(int place, int rise, int fall)
            throws IndexOutOfBoundsException, IllegalArgumentException, NoSuchElementException {
        Bar bar = barAt(place);
        needRange(rise, 2, 9);
        needRange(fall, 2, 9);
        if (bar == null) {
            throw new NoSuchElementException("no bar is there");
        }
        int before = bar.rise;
        bar.rise = rise;
        bar.fall = fall;
        return before;
    }

    public int wear(int place) throws IndexOutOfBoundsException, NoSuchElementException {
        Bar bar = barAt(place);
        if (bar == null) {
            throw new NoSuchElementException("no bar is there");
        }
        return bar.worn;
    }

    public int carriage(int load, int spring) throws IllegalArgumentException {
        needRange(load, 0, 99);
        needRange(spring, 1, 50);
        slide.load = load;
        slide.spring = spring;
        return slide.escapeTicks();
    }

    public int escapeBits() {
        return bitsOfFloat(slide.escapeTime());
    }

    public int rest() {
        return slide.restTick > tick ? slide.restTick - tick : 0;
    }

    public int margins(int left, int right, int bell) throws IllegalArgumentException {
        needRange(left, 0, HALF_STEPS - 1);
        needRange(right, left + 1, HALF_STEPS - 1);
        needRange(bell, 0, 30);
        int before = slide.right;
        slide.left = left;
        slide.right = right;
        slide.bell = bell;
        return before;
    }

    public boolean release() {
        boolean before = slide.isReleased;
        slide.isReleased = true;
        return before;
    }

    public int rings() {
        return slide.ringCount;
    }

    public boolean stop(int column, boolean is) throws IllegalArgumentException {
        needRange(column, 0, HALF_STEPS - 1);
        return slide.setStop(column, is);
    }

    public int tab() throws NoSuchElementException {
        int target = slide.nextStop();
        if (target < 0) {
            throw new NoSuchElementException("no stop is ahead");
        }
        slide.goTo(target);
        return target;
    }

    public int decimal(int digits) throws IllegalArgumentException, NoSuchElementException {
        needRange(digits, 0, 9);
        int next = slide.nextStop();
        int target = next - digits * STEP;
        if (next < 0 || target <= slide.place) {
            throw new NoSuchElementException("no stop to which it can go");
        }
        slide.goTo(target);
        return target;
    }

    public int space() throws IllegalStateException, UnsupportedOperationException {
        return spaceBy(STEP);
    }

    public int half() throws IllegalStateException, UnsupportedOperationException {
        return spaceBy(1);
    }

    public int back() throws UnsupportedOperationException {
        int target = slide.place - STEP;
        if (target < 0) {
            throw new UnsupportedOperationException("below 0");
        }
        slide.goTo(target);
        return target;
    }

    public int home() throws UnsupportedOperationException {
        rollBy(lineHalves * SIXTHS_OF_A_HALF_LINE);
        slide.goToLeftMargin();
        return platen;
    }

    public int roll(int thirds) throws IllegalArgumentException, UnsupportedOperationException {
        needRange(thirds, -MOST_THIRDS, MOST_THIRDS);
        rollBy(thirds * SIXTHS_OF_A_THIRD);
        return platen;
    }

    public int lines(int halves) throws IllegalArgumentException {
        needRange(halves, 2, 4);
        int before = lineHalves;
        lineHalves = halves;
        return before;
    }

    public int column() {
        return slide.place;
    }

    public int ribbon(int cells) throws IllegalArgumentException {
        needRange(cells, 2, MOST_CELLS);
        int before = tape.cells;
        tape.putNew(cells);
        return before;
    }

    public char colour(char colour) throws IllegalArgumentException {
        if (colour != 'k' && colour != 'r' && colour != '-') {
            throw new IllegalArgumentException("no such colour");
        }
        char before = tape.letter;
        tape.letter = colour;
        return before;
    }

    public int ink(int cell, char colour) throws IndexOutOfBoundsException, IllegalArgumentException {
        if (cell < 0 || cell >= tape.cells) {
            throw new IndexOutOfBoundsException("no such cell");
        }
        if (colour != 'k' && colour != 'r') {
            throw new IllegalArgumentException("no such colour");
        }
        return tape.inkLeft(cell, colour);
    }

    public int cell() {
        return tape.at;
    }

    public boolean shift(boolean is) {
        boolean before = isShifted;
        isShifted = is;
        return before;
    }

    public int level(int up) throws IllegalArgumentException {
        needRange(up, -LEVEL_REACH, LEVEL_REACH);
        int before = shiftLevel;
        shiftLevel = up;
        return before;
    }

    public char strike(int place, int wait)
            throws IndexOutOfBoundsException, IllegalArgumentException, NoSuchElementException,
            UnsupportedOperationException {
        Bar bar = barAt(place);
        needRange(wait, 0, LONGEST_WAIT);
        if (bar == null) {
            throw new NoSuchElementException("no bar is there");
        }
        char outcome = outcomeOf(bar, place, tick + wait);
        boolean goesOff = outcome == 'p' || outcome == 's';
        boolean steps = goesOff && isPlain(place);
        if (steps && slide.place + STEP >= HALF_STEPS) {
            throw new UnsupportedOperationException("above 199");
        }
        tick += wait;
        strokeCount++;
        int printTick = tick + bar.rise;
        if (outcome == 'c') {
            isJammed = true;
        }
        if (goesOff) {
            bar.homeTick = printTick + bar.fall;
            rememberStroke(place, printTick);
        }
        if (outcome == 'p') {
            printWith(bar);
        }
        if (steps) {
            slide.goOn(STEP, printTick + slide.escapeTicks());
        }
        return outcome;
    }

    public boolean free() {
        boolean before = isJammed;
        isJammed = false;
        hasLastStroke = false;
        for (int place = 0; place < bars.length; place++) {
            Bar bar = bars[place];
            if (bar != null) {
                bar.homeTick = 0;
            }
        }
        return before;
    }

    public int now() {
        return tick;
    }

    public int page() {
        int before = sheet.count;
        sheet.count = 0;
        platen = 0;
        slide.goToLeftMargin();
        return before;
    }

    public int marks() {
        return sheet.count;
    }

    public int mark(int index, char what) throws IndexOutOfBoundsException, IllegalArgumentException {
        if (index < 0 || index >= sheet.count) {
            throw new IndexOutOfBoundsException("no such mark");
        }
        int thing = thingOf(what);
        if (thing < 0) {
            throw new IllegalArgumentException("no such thing");
        }
        return sheet.thingAt(index, thing);
    }

    public int pitch() throws NoSuchElementException {
        int divisor = 0;
        for (int index = 0; index < sheet.count; index++) {
            int first = sheet.firstInSixth(sheet.thingAt(index, SIXTH));
            int difference = sheet.thingAt(index, PLACE) - sheet.thingAt(first, PLACE);
            divisor = greatestDivisor(divisor, Math.abs(difference));
        }
        if (divisor == 0) {
            throw new NoSuchElementException("no difference above 0");
        }
        return divisor;
    }

    public char cause(char sign) throws NoSuchElementException {
        reading.take(sheet);
        Bar bar = firstBarWith(sign);
        if (bar == null || !reading.has(sign)) {
            throw new NoSuchElementException("not on the page, or no bar has it");
        }
        if (reading.upOf(sign) == 0 && reading.sideOf(sign) == 0) {
            return '-';
        }
        if (reading.areAlike(bar.lower, bar.upper)) {
            return 'b';
        }
        if (isUpper(sign) && reading.sideOf(sign) == 0 && areUppersUpBy(reading.upOf(sign))) {
            return 'l';
        }
        return 's';
    }

    public int sample() throws IllegalStateException {
        if (sampleCount < 0 || sampleCount >= samples.length) {
            throw new IllegalStateException("there are 4");
        }
        int number = sampleCount;
        Reading kept = new Reading();
        kept.take(sheet);
        samples[number] = kept;
        sampleCount++;
        return number;
    }

    public int likenessBits(int sample) throws IndexOutOfBoundsException {
        if (sample < 0 || sample >= sampleCount) {
            throw new IndexOutOfBoundsException("no such sample");
        }
        reading.take(sheet);
        return bitsOfFloat(likenessOf(sample));
    }

    public int whose() throws NoSuchElementException {
        reading.take(sheet);
        float best = 0.0f;
        int number = -1;
        for (int index = 0; index < sampleCount; index++) {
            float likeness = likenessOf(index);
            if (likeness > best) {
                best = likeness;
                number = index;
            } else if (likeness == best) {
                number = -1;
            }
        }
        if (number < 0) {
            throw new NoSuchElementException("none, or several, are most alike");
        }
        return number;
    }

    public float printShare() throws ArithmeticException {
        if (strokeCount == 0) {
            throw new ArithmeticException("no strokes");
        }
        return (float) printCount / (float) strokeCount;
    }

    public long meanWearBits() throws ArithmeticException {
        int sum = 0;
        int number = 0;
        for (int place = 0; place < bars.length; place++) {
            Bar bar = bars[place];
            if (bar != null) {
                sum += bar.worn;
                number++;
            }
        }
        if (number == 0) {
            throw new ArithmeticException("no bars");
        }
        return bitsOfDouble((double) sum / (double) number);
    }

    public long checksum() {
        long sum = 7;
        for (int index = 0; index < sheet.count; index++) {
            sum = 31 * sum + sheet.thingAt(index, SIXTH);
            sum = 31 * sum + sheet.thingAt(index, PLACE);
            sum = 31 * sum + sheet.thingAt(index, SIGN);
            sum = 31 * sum + sheet.thingAt(index, STRENGTH);
        }
        for (int place = 0; place < bars.length; place++) {
            Bar bar = bars[place];
            if (bar != null) {
                sum = 31 * sum + bar.worn;
            }
        }
        sum = 31 * sum + slide.place;
        return 31 * sum + tape.at;
    }

    public boolean isTrue() {
        for (int index = 0; index < sheet.count; index++) {
            boolean isWithin = isBetween(sheet.thingAt(index, SIXTH), 0, SIXTHS - 1)
                    && isBetween(sheet.thingAt(index, PLACE), 0, HALF_STEPS - 1);
            int side = sheet.thingAt(index, SIDE);
            if (!isWithin || !isBetween(side, -SLUG_REACH, SLUG_REACH + WEAR_REACH)) {
                return false;
            }
        }
        return tape.inkGone() == tape.inkedPrints;
    }

    // Arguments

    private static boolean isBetween(int number, int least, int most) {
        return number >= least && number <= most;
    }

    private static void needRange(int number, int least, int most) {
        if (!isBetween(number, least, most)) {
            throw new IllegalArgumentException("out of range");
        }
    }

    private static int thingOf(char what) {
        switch (what) {
            case 'r':
                return SIXTH;
            case 'c':
                return PLACE;
            case 's':
                return SIGN;
            case 'u':
                return UP;
            case 'x':
                return SIDE;
            case 't':
                return TWIST;
            case 'i':
                return STRENGTH;
            case 'k':
                return COLOUR;
            default:
                return -1;
        }
    }

    // Bars

    private static boolean isPlain(int place) {
        return place < PLAIN_PLACES;
    }

    private Bar barAt(int place) {
        if (place < 0 || place >= bars.length) {
            throw new IndexOutOfBoundsException("no such place");
        }
        return bars[place];
    }

    private boolean putBar(int place, char lower, char upper, boolean plain) {
        if (place < 0 || place >= bars.length) {
            throw new IndexOutOfBoundsException("no such place");
        }
        needRange(lower, FIRST_SIGN, LAST_SIGN);
        needRange(upper, FIRST_SIGN, LAST_SIGN);
        if (isPlain(place) != plain) {
            throw new UnsupportedOperationException("a place for bars of the other kind");
        }
        boolean before = bars[place] != null;
        bars[place] = new Bar(lower, upper);
        return before;
    }

    private Bar firstBarWith(int sign) {
        for (int place = 0; place < bars.length; place++) {
            Bar bar = bars[place];
            if (bar != null && (bar.lower == sign || bar.upper == sign)) {
                return bar;
            }
        }
        return null;
    }

    // Moves

    private int spaceBy(int halfSteps) {
        if (slide.isLocked()) {
            throw new IllegalStateException("locked");
        }
        if (slide.place + halfSteps >= HALF_STEPS) {
            throw new UnsupportedOperationException("above 199");
        }
        slide.goOn(halfSteps, 0);
        return slide.place;
    }

    private void rollBy(int sixths) {
        if (!isBetween(platen + sixths, 0, SIXTHS - 1)) {
            throw new UnsupportedOperationException("beyond the platen");
        }
        platen += sixths;
    }

    // Strokes

    private char outcomeOf(Bar bar, int place, int strokeTick) {
        int printTick = strokeTick + bar.rise;
        if (isJammed) {
            return 'j';
        }
        if (isPlain(place) && slide.isLocked()) {
            return 'm';
        }
        if (strokeTick < bar.homeTick) {
            return 'b';
        }
        if (isClash(place, printTick)) {
            return 'c';
        }
        return printTick < slide.restTick ? 's' : 'p';
    }

    private boolean isClash(int place, int printTick) {
        if (!hasLastStroke) {
            return false;
        }
        boolean areNeighbours = Math.abs(place - lastPlace) == 1;
        return printTick - lastPrintTick <= (areNeighbours ? 4 : 2);
    }

    private void rememberStroke(int place, int printTick) {
        hasLastStroke = true;
        lastPlace = place;
        lastPrintTick = printTick;
    }

    private void printWith(Bar bar) {
        int strength = tape.giveInk();
        if (sheet.count < MOST_MARKS) {
            sheet.note(SIXTH, platen);
            sheet.note(PLACE, slide.place);
            sheet.note(SIGN, isShifted ? bar.upper : bar.lower);
            sheet.note(UP, bar.up + (isShifted ? shiftLevel : 0));
            sheet.note(SIDE, bar.side + Math.min(WEAR_REACH, bar.worn / 10));
            sheet.note(TWIST, bar.twist);
            sheet.note(STRENGTH, strength);
            sheet.note(COLOUR, tape.letter);
            sheet.count++;
        }
        bar.worn++;
        printCount++;
    }

    // Readings

    private static int greatestDivisor(int one, int other) {
        int a = one;
        int b = other;
        // each two rounds halve the number, so that 64 are enough for every int
        for (int round = 0; round < 64 && b != 0; round++) {
            int left = a % b;
            a = b;
            b = left;
        }
        return a;
    }

    private boolean isUpper(int sign) {
        Bar bar = firstBarWith(sign);
        return bar != null && bar.upper == sign && bar.lower != sign;
    }

    private boolean areUppersUpBy(int up) {
        for (int sign = FIRST_SIGN; sign <= LAST_SIGN; sign++) {
            if (reading.has(sign) && reading.upOf(sign) != up && isUpper(sign)) {
                return false;
            }
        }
        return true;
    }

    private float likenessOf(int number) {
        if (number < 0 || number >= samples.length) {
            return 0.0f;
        }
        Reading kept = samples[number];
        if (kept == null) {
            return 0.0f;
        }
        int onBoth = 0;
        int alike = 0;
        for (int sign = FIRST_SIGN; sign <= LAST_SIGN; sign++) {
            if (kept.has(sign) && reading.has(sign)) {
                onBoth++;
                if (kept.upOf(sign) == reading.upOf(sign) && kept.sideOf(sign) == reading.sideOf(sign)) {
                    alike++;
                }
            }
        }
        return onBoth == 0 ? 0.0f : (float) alike / (float) onBoth;
    }

    // Bits: the library's own functions for them stand outside the part of Java that is kept to

    private static int bitsOfFloat(float number) {
        if (number <= 0.0f) {
            return 0;
        }
        float part = number;
        int exponent = 127;
        for (int round = 0; round < 128 && part >= 2.0f; round++) {
            part = part / 2.0f;
            exponent++;
        }
        for (int round = 0; round < 126 && part < 1.0f; round++) {
            part = part * 2.0f;
            exponent--;
        }
        return (exponent << 23) + (int) ((part - 1.0f) * 8388608.0f);
    }

    private static long bitsOfDouble(double number) {
        if (number <= 0.0) {
            return 0L;
        }
        double part = number;
        long exponent = 1023;
        for (int round = 0; round < 1024 && part >= 2.0; round++) {
            part = part / 2.0;
            exponent++;
        }
        for (int round = 0; round < 1022 && part < 1.0; round++) {
            part = part * 2.0;
            exponent--;
        }
        return (exponent << 52) + (long) ((part - 1.0) * 4503599627370496.0);
    }

    /** A bar with its two signs, its slug, and how it moves. */
    private static final class Bar {
        final char lower;
        final char upper;
        int up;
        int side;
        int twist;
        int rise = 4;
        int fall = 4;
        int worn;
        // kept as a tick, since a later change of the speed must not change how it fell
        int homeTick;

        Bar(char lower, char upper) {
            this.lower = lower;
            this.upper = upper;
        }

        void turnSlug(int newUp, int newSide, int newTwist) {
            up = newUp;
            side = newSide;
            twist = newTwist;
        }
    }

    /** The carriage with its margins, its bell and its stops. */
    private static final class Carriage {
        int load = 10;
        int spring = 10;
        int place;
        int restTick;
        int left;
        int right = 160;
        int bell = 10;
        boolean isReleased;
        int ringCount;
        final boolean[] stops = new boolean[HALF_STEPS];

        float escapeTime() {
            float pull = (float) spring;
            return pull > 0.0f ? (20.0f + (float) load) / pull : 0.0f;
        }

        int escapeTicks() {
            float time = escapeTime();
            int whole = (int) time;
            return (float) whole < time ? whole + 1 : whole;
        }

        boolean isLocked() {
            return !isReleased && place >= right;
        }

        void goOn(int halfSteps, int newRestTick) {
            int target = place + halfSteps;
            int bellPlace = right - bell;
            if (place < bellPlace && target >= bellPlace) {
                ringCount++;
            }
            place = target;
            restTick = newRestTick;
        }

        void goTo(int target) {
            place = target;
            restTick = 0;
        }

        void goToLeftMargin() {
            goTo(left);
            isReleased = false;
        }

        boolean setStop(int index, boolean is) {
            if (index < 0 || index >= stops.length) {
                return false;
            }
            boolean before = stops[index];
            stops[index] = is;
            return before;
        }

        int nextStop() {
            for (int index = 0; index < stops.length; index++) {
                if (index > place && stops[index]) {
                    return index;
                }
            }
            return -1;
        }
    }

    /** The ribbon, its ink, and the colour that is set. */
    private static final class Ribbon {
        int cells;
        int at;
        boolean goesUp;
        char letter = 'k';
        int inkedPrints;
        final int[] black = new int[MOST_CELLS];
        final int[] red = new int[MOST_CELLS];

        Ribbon() {
            putNew(40);
        }

        void putNew(int newCells) {
            cells = newCells;
            at = 0;
            goesUp = true;
            inkedPrints = 0;
            for (int index = 0; index < MOST_CELLS; index++) {
                setInk(index, 'k', FULL_INK);
                setInk(index, 'r', FULL_INK);
            }
        }

        int inkLeft(int index, char which) {
            int[] row = which == 'r' ? red : black;
            return index >= 0 && index < row.length ? row[index] : 0;
        }

        void setInk(int index, char which, int amount) {
            int[] row = which == 'r' ? red : black;
            if (index >= 0 && index < row.length) {
                row[index] = amount;
            }
        }

        int giveInk() {
            if (letter == '-') {
                return 0;
            }
            int strength = inkLeft(at, letter);
            if (strength > 0) {
                setInk(at, letter, strength - 1);
                inkedPrints++;
            }
            goOnByCell();
            return strength;
        }

        void goOnByCell() {
            int next = goesUp ? at + 1 : at - 1;
            if (next < 0 || next >= cells) {
                goesUp = !goesUp;
            } else {
                at = next;
            }
        }

        int inkGone() {
            int gone = 0;
            for (int index = 0; index < cells; index++) {
                gone += 2 * FULL_INK - inkLeft(index, 'k') - inkLeft(index, 'r');
            }
            return gone;
        }
    }

    /** The marks of the page, each a row of eight numbers. */
    private static final class Page {
        int count;
        final int[] rows = new int[MOST_MARKS * THINGS];

        int thingAt(int index, int thing) {
            int spot = index * THINGS + thing;
            return spot >= 0 && spot < rows.length ? rows[spot] : 0;
        }

        /** Writes a number of the mark that comes next. */
        void note(int thing, int number) {
            int spot = count * THINGS + thing;
            if (spot >= 0 && spot < rows.length) {
                rows[spot] = number;
            }
        }

        int firstInSixth(int sixth) {
            for (int index = 0; index < count; index++) {
                if (thingAt(index, SIXTH) == sixth) {
                    return index;
                }
            }
            return 0;
        }
    }

    /** What is typical of each sign of a page. */
    private static final class Reading {
        // marks are up by -6 to 6 and to the side by -3 to 6
        private static final int REACH = 6;
        final boolean[] isOn = new boolean[SIGNS];
        final int[] ups = new int[SIGNS];
        final int[] sides = new int[SIGNS];
        final int[] counts = new int[2 * REACH + 1];

        void take(Page page) {
            for (int index = 0; index < isOn.length; index++) {
                isOn[index] = false;
            }
            for (int index = 0; index < page.count; index++) {
                int sign = page.thingAt(index, SIGN);
                if (!has(sign)) {
                    keep(sign, mostOften(page, sign, UP), mostOften(page, sign, SIDE));
                }
            }
        }

        void keep(int sign, int up, int side) {
            int index = sign - FIRST_SIGN;
            if (index >= 0 && index < SIGNS) {
                isOn[index] = true;
                ups[index] = up;
                sides[index] = side;
            }
        }

        int mostOften(Page page, int sign, int thing) {
            for (int index = 0; index < counts.length; index++) {
                counts[index] = 0;
            }
            for (int index = 0; index < page.count; index++) {
                int spot = page.thingAt(index, thing) + REACH;
                if (page.thingAt(index, SIGN) == sign && spot >= 0 && spot < counts.length) {
                    counts[spot]++;
                }
            }
            int best = 0;
            int most = 0;
            for (int index = 0; index < counts.length; index++) {
                if (counts[index] > most) {
                    most = counts[index];
                    best = index;
                }
            }
            return best - REACH;
        }

        boolean has(int sign) {
            int index = sign - FIRST_SIGN;
            return index >= 0 && index < isOn.length && isOn[index];
        }

        int upOf(int sign) {
            int index = sign - FIRST_SIGN;
            return index >= 0 && index < ups.length ? ups[index] : 0;
        }

        int sideOf(int sign) {
            int index = sign - FIRST_SIGN;
            return index >= 0 && index < sides.length ? sides[index] : 0;
        }

        boolean areAlike(int one, int other) {
            return has(one) && has(other) && upOf(one) == upOf(other) && sideOf(one) == sideOf(other);
        }
    }
}
