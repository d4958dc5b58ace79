/** The rings of days and of months, four cells of each. ../shared/DOC.md says what each call promises. */
public final class Ringdays {
    private static final int CELLS = 4;
    private static final int MARKS = 2;
    private static final int DAYS = 7;
    private static final int MONTHS = 12;
    private static final int QUARTER_SIZE = 3;
    private static final int STEP_FACTOR = 100;
    private static final long LOW_BITS = 0xFFFFFFFFL;
    private static final long DIGEST_START = 7793L;
    private static final long DIGEST_FACTOR = 31L;

    private final int[] dayRow;
    private final int[] monthRow;
    private final int[][] keptDays;
    private final int[][] keptMonths;
    private final boolean[] keptMarks;
    private int actCount;
    private int knockCount;

    public Ringdays() {
        dayRow = new int[CELLS];
        monthRow = new int[CELLS];
        for (int cell = 0; cell < CELLS; cell++) {
            dayRow[cell] = 1;
            monthRow[cell] = 1;
        }
        keptDays = new int[MARKS][CELLS];
        keptMonths = new int[MARKS][CELLS];
        keptMarks = new boolean[MARKS];
    }

    // ---- days

    public int day(int cell, int number) throws IndexOutOfBoundsException, IllegalArgumentException {
        return exchange(dayRow, cell, number, DAYS);
    }

    public int dayNumber(int cell) throws IndexOutOfBoundsException {
        return numberIn(dayRow, cell);
    }

    public int dayPlace(int cell) throws IndexOutOfBoundsException {
        return placeOf(numberIn(dayRow, cell));
    }

    public String dayName(int cell) throws IndexOutOfBoundsException {
        return nameOfDay(numberIn(dayRow, cell));
    }

    public int dayOn(int cell, int many) throws IndexOutOfBoundsException {
        return become(dayRow, cell, dayAt(cell, many));
    }

    public int dayBack(int cell, int many) throws IndexOutOfBoundsException {
        return become(dayRow, cell, dayAhead(cell, many));
    }

    public int dayOnFar(int cell, int high, int low) throws IndexOutOfBoundsException {
        return become(dayRow, cell, dayAtFar(cell, high, low, false));
    }

    public int dayBackFar(int cell, int high, int low) throws IndexOutOfBoundsException {
        return become(dayRow, cell, dayAtFar(cell, high, low, true));
    }

    public int dayAt(int cell, int many) throws IndexOutOfBoundsException {
        return numberOn(numberIn(dayRow, cell), many, DAYS);
    }

    public int dayAhead(int cell, int many) throws IndexOutOfBoundsException {
        return numberBack(numberIn(dayRow, cell), many, DAYS);
    }

    public int dayAtFar(int cell, int high, int low, boolean isBack) throws IndexOutOfBoundsException {
        int number = numberIn(dayRow, cell);
        long many = amount(high, low);
        return isBack ? numberBack(number, many, DAYS) : numberOn(number, many, DAYS);
    }

    public int dayTwice(int cell, int many, int more) throws IndexOutOfBoundsException {
        return numberOn(dayAt(cell, many), more, DAYS);
    }

    public int dayCopy(int cell, int from) throws IndexOutOfBoundsException {
        return copy(dayRow, cell, from);
    }

    public int daySwap(int cell, int other) throws IndexOutOfBoundsException {
        return swap(dayRow, cell, other);
    }

    public int dayOrder(int cell, int other) throws IndexOutOfBoundsException {
        return order(numberIn(dayRow, cell), numberIn(dayRow, other));
    }

    public boolean isSameDay(int cell, int other) throws IndexOutOfBoundsException {
        return numberIn(dayRow, cell) == numberIn(dayRow, other);
    }

    public boolean isDay(int cell, int number) throws IndexOutOfBoundsException, IllegalArgumentException {
        return hasNumber(dayRow, cell, number, DAYS);
    }

    // ---- months

    public int month(int cell, int number) throws IndexOutOfBoundsException, IllegalArgumentException {
        return exchange(monthRow, cell, number, MONTHS);
    }

    public int monthNumber(int cell) throws IndexOutOfBoundsException {
        return numberIn(monthRow, cell);
    }

    public int monthPlace(int cell) throws IndexOutOfBoundsException {
        return placeOf(numberIn(monthRow, cell));
    }

    public String monthName(int cell) throws IndexOutOfBoundsException {
        return nameOfMonth(numberIn(monthRow, cell));
    }

    public int monthOn(int cell, int many) throws IndexOutOfBoundsException {
        return become(monthRow, cell, monthAt(cell, many));
    }

    public int monthBack(int cell, int many) throws IndexOutOfBoundsException {
        return become(monthRow, cell, monthAhead(cell, many));
    }

    public int monthOnFar(int cell, int high, int low) throws IndexOutOfBoundsException {
        return become(monthRow, cell, monthAtFar(cell, high, low, false));
    }

    public int monthBackFar(int cell, int high, int low) throws IndexOutOfBoundsException {
        return become(monthRow, cell, monthAtFar(cell, high, low, true));
    }

    public int monthAt(int cell, int many) throws IndexOutOfBoundsException {
        return numberOn(numberIn(monthRow, cell), many, MONTHS);
    }

    public int monthAhead(int cell, int many) throws IndexOutOfBoundsException {
        return numberBack(numberIn(monthRow, cell), many, MONTHS);
    }

    public int monthAtFar(int cell, int high, int low, boolean isBack) throws IndexOutOfBoundsException {
        int number = numberIn(monthRow, cell);
        long many = amount(high, low);
        return isBack ? numberBack(number, many, MONTHS) : numberOn(number, many, MONTHS);
    }

    public int monthTwice(int cell, int many, int more) throws IndexOutOfBoundsException {
        return numberOn(monthAt(cell, many), more, MONTHS);
    }

    public int monthCopy(int cell, int from) throws IndexOutOfBoundsException {
        return copy(monthRow, cell, from);
    }

    public int monthSwap(int cell, int other) throws IndexOutOfBoundsException {
        return swap(monthRow, cell, other);
    }

    public int monthOrder(int cell, int other) throws IndexOutOfBoundsException {
        return order(numberIn(monthRow, cell), numberIn(monthRow, other));
    }

    public boolean isSameMonth(int cell, int other) throws IndexOutOfBoundsException {
        return numberIn(monthRow, cell) == numberIn(monthRow, other);
    }

    public boolean isMonth(int cell, int number) throws IndexOutOfBoundsException, IllegalArgumentException {
        return hasNumber(monthRow, cell, number, MONTHS);
    }

    public int length(int cell, boolean isLong) throws IndexOutOfBoundsException {
        return lengthOf(numberIn(monthRow, cell), isLong);
    }

    public int least(int cell) throws IndexOutOfBoundsException {
        return leastOf(numberIn(monthRow, cell));
    }

    public int greatest(int cell) throws IndexOutOfBoundsException {
        return greatestOf(numberIn(monthRow, cell));
    }

    public int first(int cell, boolean isLong) throws IndexOutOfBoundsException {
        return firstOf(numberIn(monthRow, cell), isLong);
    }

    public int quarter(int cell) throws IndexOutOfBoundsException {
        return quarterOf(numberIn(monthRow, cell));
    }

    public int toQuarter(int cell) throws IndexOutOfBoundsException {
        int before = numberIn(monthRow, cell);
        return before - become(monthRow, cell, quarterOf(before));
    }

    // ---- days and months together

    public int step(int cell, int day, boolean isLong) throws IndexOutOfBoundsException {
        int passing = numberIn(monthRow, cell);
        int dayThen = numberOn(numberIn(dayRow, day), lengthOf(passing, isLong), DAYS);
        return becomeBoth(cell, numberOn(passing, 1, MONTHS), day, dayThen);
    }

    public int stepBack(int cell, int day, boolean isLong) throws IndexOutOfBoundsException {
        int ahead = numberBack(numberIn(monthRow, cell), 1, MONTHS);
        int dayThen = numberBack(numberIn(dayRow, day), lengthOf(ahead, isLong), DAYS);
        return becomeBoth(cell, ahead, day, dayThen);
    }

    public int begins(int cell, int day, boolean isLong) throws IndexOutOfBoundsException {
        return dayOfDate(numberIn(monthRow, cell), numberIn(dayRow, day), isLong, 1);
    }

    public int date(int cell, int day, boolean isLong, int number)
            throws IndexOutOfBoundsException, IllegalArgumentException {
        int monthThere = numberIn(monthRow, cell);
        int dayThere = numberIn(dayRow, day);
        refuseOutside(number, lengthOf(monthThere, isLong));
        return dayOfDate(monthThere, dayThere, isLong, number);
    }

    public boolean areAlike(int cell, int other, boolean isLong) throws IndexOutOfBoundsException {
        int one = firstOf(numberIn(monthRow, cell), isLong);
        int another = firstOf(numberIn(monthRow, other), isLong);
        return rest(one, DAYS) == rest(another, DAYS);
    }

    // ---- all of it

    public int keep(int mark) throws IndexOutOfBoundsException {
        int before = isKept(mark) ? 1 : 0;
        copyCells(dayRow, keptDays[mark]);
        copyCells(monthRow, keptMonths[mark]);
        keptMarks[mark] = true;
        return before;
    }

    public int back(int mark) throws IndexOutOfBoundsException, IllegalStateException {
        if (!isKept(mark)) {
            throw new IllegalStateException("nothing is kept there");
        }
        int others = countOthers(dayRow, keptDays[mark]) + countOthers(monthRow, keptMonths[mark]);
        copyCells(keptDays[mark], dayRow);
        copyCells(keptMonths[mark], monthRow);
        actCount++;
        return others;
    }

    public boolean isKept(int mark) throws IndexOutOfBoundsException {
        if (mark < 0 || mark >= MARKS) {
            throw new IndexOutOfBoundsException("no such mark");
        }
        return keptMarks[mark];
    }

    public String days() {
        StringBuilder names = new StringBuilder();
        for (int cell = 0; cell < CELLS; cell++) {
            if (cell > 0) {
                names.append(' ');
            }
            names.append(nameOfDay(dayRow[cell]));
        }
        return names.toString();
    }

    public String months() {
        StringBuilder names = new StringBuilder();
        for (int cell = 0; cell < CELLS; cell++) {
            if (cell > 0) {
                names.append(' ');
            }
            names.append(nameOfMonth(monthRow[cell]));
        }
        return names.toString();
    }

    public int acts() {
        return actCount;
    }

    public int knock() {
        knockCount++;
        return knockCount;
    }

    public boolean isSound() {
        return isRingSound(DAYS) && isRingSound(MONTHS) && areMonthsSound() && areCellsSound();
    }

    public long digest() {
        long d = DIGEST_START;
        d = mixed(d, actCount);
        d = mixed(d, knockCount);
        for (int cell = 0; cell < CELLS; cell++) {
            d = mixedCell(d, dayRow[cell], monthRow[cell]);
        }
        for (int cell = 0; cell < CELLS; cell++) {
            for (int other = 0; other < CELLS; other++) {
                d = mixed(d, dayOrder(cell, other));
                d = mixed(d, monthOrder(cell, other));
                d = mixed(d, areAlike(cell, other, false) ? 1 : 0);
            }
        }
        for (int mark = 0; mark < MARKS; mark++) {
            d = mixed(d, isKept(mark) ? 1 : 0);
        }
        return mixed(d, isSound() ? 1 : 0);
    }

    // ---- cells: a caller's number reaches a row through numberIn and write alone, which refuse it
    // before anything is changed

    private static int numberIn(int[] row, int cell) {
        if (cell < 0 || cell >= CELLS) {
            throw new IndexOutOfBoundsException("no such cell");
        }
        return row[cell];
    }

    private static void write(int[] row, int cell, int number) {
        if (cell < 0 || cell >= CELLS) {
            throw new IndexOutOfBoundsException("no such cell");
        }
        row[cell] = number;
    }

    private int become(int[] row, int cell, int number) {
        write(row, cell, number);
        actCount++;
        return number;
    }

    private int becomeBoth(int monthCell, int monthThen, int dayCell, int dayThen) {
        write(dayRow, dayCell, dayThen);
        return STEP_FACTOR * dayThen + become(monthRow, monthCell, monthThen);
    }

    private int exchange(int[] row, int cell, int number, int size) {
        int before = numberIn(row, cell);
        refuseOutside(number, size);
        become(row, cell, number);
        return before;
    }

    private int copy(int[] row, int cell, int from) {
        return become(row, cell, numberIn(row, from));
    }

    private int swap(int[] row, int cell, int other) {
        int mine = numberIn(row, cell);
        int theirs = numberIn(row, other);
        write(row, other, mine);
        return become(row, cell, theirs);
    }

    private static boolean hasNumber(int[] row, int cell, int number, int size) {
        int there = numberIn(row, cell);
        refuseOutside(number, size);
        return there == number;
    }

    private static void refuseOutside(int number, int greatestNumber) {
        if (number < 1 || number > greatestNumber) {
            throw new IllegalArgumentException("no such number");
        }
    }

    private static int order(int number, int otherNumber) {
        return number < otherNumber ? -1 : number > otherNumber ? 1 : 0;
    }

    private static void copyCells(int[] from, int[] to) {
        for (int cell = 0; cell < CELLS; cell++) {
            to[cell] = from[cell];
        }
    }

    private static int countOthers(int[] row, int[] otherRow) {
        int others = 0;
        for (int cell = 0; cell < CELLS; cell++) {
            if (row[cell] != otherRow[cell]) {
                others++;
            }
        }
        return others;
    }

    // ---- rings

    private static int placeOf(int number) {
        return number - 1;
    }

    private static long amount(int high, int low) {
        return ((long) high << 32) | (low & LOW_BITS);
    }

    private static int rest(long many, int size) {
        return size < 1 ? 0 : (int) Math.floorMod(many, (long) size);
    }

    // The whole rounds go before the place is added, and before the sign is turned in numberBack:
    // at the ends of the 64-bit numbers either would wrap around.
    private static int numberOn(int number, long many, int size) {
        return rest(placeOf(number) + rest(many, size), size) + 1;
    }

    private static int numberBack(int number, long many, int size) {
        return numberOn(number, -rest(many, size), size);
    }

    private static String nameOfDay(int number) {
        switch (number) {
            case 1: return "MONDAY";
            case 2: return "TUESDAY";
            case 3: return "WEDNESDAY";
            case 4: return "THURSDAY";
            case 5: return "FRIDAY";
            case 6: return "SATURDAY";
            default: return "SUNDAY";
        }
    }

    private static String nameOfMonth(int number) {
        switch (number) {
            case 1: return "JANUARY";
            case 2: return "FEBRUARY";
            case 3: return "MARCH";
            case 4: return "APRIL";
            case 5: return "MAY";
            case 6: return "JUNE";
            case 7: return "JULY";
            case 8: return "AUGUST";
            case 9: return "SEPTEMBER";
            case 10: return "OCTOBER";
            case 11: return "NOVEMBER";
            default: return "DECEMBER";
        }
    }

    private static int lengthOf(int number, boolean isLong) {
        switch (number) {
            case 2: return isLong ? 29 : 28;
            case 4:
            case 6:
            case 9:
            case 11: return 30;
            default: return 31;
        }
    }

    private static int leastOf(int number) {
        return Math.min(lengthOf(number, false), lengthOf(number, true));
    }

    private static int greatestOf(int number) {
        return Math.max(lengthOf(number, false), lengthOf(number, true));
    }

    private static int firstOf(int number, boolean isLong) {
        int firstDay = 1;
        for (int smaller = 1; smaller < number && smaller < MONTHS; smaller++) {
            firstDay += lengthOf(smaller, isLong);
        }
        return firstDay;
    }

    private static int quarterOf(int number) {
        return number - rest(placeOf(number), QUARTER_SIZE);
    }

    private static int dayOfDate(int monthThere, int yearBegins, boolean isLong, int number) {
        return numberOn(yearBegins, firstOf(monthThere, isLong) - 1 + number - 1, DAYS);
    }

    // ---- soundness

    private static boolean isRingSound(int size) {
        for (int number = 1; number <= size; number++) {
            boolean isItself = numberOn(1, number - 1, size) == number && placeOf(number) == number - 1;
            boolean leadsBack = numberOn(number, size, size) == number && numberBack(number, size, size) == number;
            if (!isItself || !leadsBack || !comesToEachOnce(number, size)) {
                return false;
            }
        }
        return true;
    }

    private static boolean comesToEachOnce(int start, int size) {
        int seen = 0;
        int number = start;
        for (int turn = 0; turn < size; turn++) {
            number = numberOn(number, 1, size);
            int bit = 1 << number;
            if (number < 1 || number > size || (seen & bit) != 0) {
                return false;
            }
            seen |= bit;
        }
        return number == start;
    }

    private static boolean areMonthsSound() {
        for (int number = 1; number <= MONTHS; number++) {
            boolean areLengthsSound = lengthOf(number, false) == leastOf(number)
                    && lengthOf(number, true) == greatestOf(number);
            boolean areFirstsSound = isFirstSound(number, false) && isFirstSound(number, true);
            if (!areLengthsSound || !areFirstsSound || !isQuarterSound(number)) {
                return false;
            }
        }
        return true;
    }

    private static boolean isFirstSound(int number, boolean isLong) {
        int due = number == 1 ? 1 : firstOf(number - 1, isLong) + lengthOf(number - 1, isLong);
        return firstOf(number, isLong) == due;
    }

    private static boolean isQuarterSound(int number) {
        int begin = quarterOf(number);
        int nextBegin = numberOn(begin, QUARTER_SIZE, MONTHS);
        return nextBegin != begin && quarterOf(nextBegin) == nextBegin;
    }

    private boolean areCellsSound() {
        for (int cell = 0; cell < CELLS; cell++) {
            boolean isYearSound = dayAfterYear(cell, false) == numberOn(dayRow[cell], 1, DAYS)
                    && dayAfterYear(cell, true) == numberOn(dayRow[cell], 2, DAYS);
            if (!isYearSound) {
                return false;
            }
        }
        return true;
    }

    private int dayAfterYear(int cell, boolean isLong) {
        int dayThen = numberIn(dayRow, cell);
        int passing = numberIn(monthRow, cell);
        for (int turn = 0; turn < MONTHS; turn++) {
            dayThen = numberOn(dayThen, lengthOf(passing, isLong), DAYS);
            passing = numberOn(passing, 1, MONTHS);
        }
        return dayThen;
    }

    // ---- checksum

    private static long mixed(long d, int value) {
        return d * DIGEST_FACTOR + value;
    }

    private static long mixedName(long d, String name) {
        long mix = d;
        for (int place = 0; place < name.length(); place++) {
            mix = mixed(mix, name.charAt(place));
        }
        return mix;
    }

    private static long mixedCell(long d, int dayThere, int monthThere) {
        long mix = mixed(d, dayThere);
        mix = mixed(mix, monthThere);
        mix = mixedName(mix, nameOfDay(dayThere));
        mix = mixedName(mix, nameOfMonth(monthThere));
        mix = mixed(mix, lengthOf(monthThere, false));
        mix = mixed(mix, lengthOf(monthThere, true));
        mix = mixed(mix, firstOf(monthThere, false));
        mix = mixed(mix, firstOf(monthThere, true));
        return mixed(mix, quarterOf(monthThere));
    }
}
