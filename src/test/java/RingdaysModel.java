import java.math.BigInteger;
import java.time.DayOfWeek;
import java.time.LocalDate;
import java.time.Month;
import java.time.Year;

/** The document told a second time, over java.time and BigInteger, so that a slip is not made twice. */
public final class RingdaysModel {
    private static final BigInteger TWO_TO_32 = BigInteger.ONE.shiftLeft(32);

    private DayOfWeek[] day = new DayOfWeek[4];
    private Month[] month = new Month[4];
    private final DayOfWeek[][] keptDay = new DayOfWeek[2][];
    private final Month[][] keptMonth = new Month[2][];
    private int acts;
    private int knocks;

    public RingdaysModel() {
        java.util.Arrays.fill(day, DayOfWeek.MONDAY);
        java.util.Arrays.fill(month, Month.JANUARY);
    }

    private static void cell(int... cells) {
        for (int cell : cells) {
            if (cell != 0 && cell != 1 && cell != 2 && cell != 3) {
                throw new IndexOutOfBoundsException();
            }
        }
    }

    private static void mark(int mark) {
        if (mark != 0 && mark != 1) {
            throw new IndexOutOfBoundsException();
        }
    }

    private static void number(int number, int most) {
        if (number <= 0 || number > most) {
            throw new IllegalArgumentException();
        }
    }

    private static BigInteger of(int many) {
        return BigInteger.valueOf(many);
    }

    private static BigInteger amount(int high, int low) {
        BigInteger small = of(low).signum() < 0 ? of(low).add(TWO_TO_32) : of(low);
        return of(high).multiply(TWO_TO_32).add(small);
    }

    private static DayOfWeek on(DayOfWeek from, BigInteger many) {
        return from.plus(many.mod(of(7)).longValueExact());
    }

    private static Month on(Month from, BigInteger many) {
        return from.plus(many.mod(of(12)).longValueExact());
    }

    private int set(int cell, DayOfWeek then) {
        acts++;
        day[cell] = then;
        return then.getValue();
    }

    private int set(int cell, Month then) {
        acts++;
        month[cell] = then;
        return then.getValue();
    }

    public int day(int cell, int number) {
        cell(cell);
        number(number, 7);
        int before = day[cell].getValue();
        set(cell, DayOfWeek.of(number));
        return before;
    }

    public int dayNumber(int cell) { cell(cell); return day[cell].getValue(); }
    public int dayPlace(int cell) { cell(cell); return day[cell].ordinal(); }
    public String dayName(int cell) { cell(cell); return day[cell].name(); }
    public int dayOn(int cell, int many) { cell(cell); return set(cell, on(day[cell], of(many))); }
    public int dayBack(int cell, int many) { cell(cell); return set(cell, on(day[cell], of(many).negate())); }
    public int dayOnFar(int cell, int high, int low) { cell(cell); return set(cell, on(day[cell], amount(high, low))); }
    public int dayBackFar(int cell, int high, int low) { cell(cell); return set(cell, on(day[cell], amount(high, low).negate())); }
    public int dayAt(int cell, int many) { cell(cell); return on(day[cell], of(many)).getValue(); }
    public int dayAhead(int cell, int many) { cell(cell); return on(day[cell], of(many).negate()).getValue(); }

    public int dayAtFar(int cell, int high, int low, boolean isBack) {
        cell(cell);
        BigInteger many = amount(high, low);
        return on(day[cell], isBack ? many.negate() : many).getValue();
    }

    public int dayTwice(int cell, int many, int more) { cell(cell); return on(day[cell], of(many).add(of(more))).getValue(); }
    public int dayCopy(int cell, int from) { cell(cell, from); return set(cell, day[from]); }

    public int daySwap(int cell, int other) {
        cell(cell, other);
        DayOfWeek mine = day[cell];
        day[cell] = day[other];
        day[other] = mine;
        acts++;
        return day[cell].getValue();
    }

    public int dayOrder(int cell, int other) { cell(cell, other); return Integer.signum(day[cell].compareTo(day[other])); }
    public boolean isSameDay(int cell, int other) { cell(cell, other); return day[cell] == day[other]; }
    public boolean isDay(int cell, int number) { cell(cell); number(number, 7); return day[cell] == DayOfWeek.of(number); }

    public int month(int cell, int number) {
        cell(cell);
        number(number, 12);
        int before = month[cell].getValue();
        set(cell, Month.of(number));
        return before;
    }

    public int monthNumber(int cell) { cell(cell); return month[cell].getValue(); }
    public int monthPlace(int cell) { cell(cell); return month[cell].ordinal(); }
    public String monthName(int cell) { cell(cell); return month[cell].name(); }
    public int monthOn(int cell, int many) { cell(cell); return set(cell, on(month[cell], of(many))); }
    public int monthBack(int cell, int many) { cell(cell); return set(cell, on(month[cell], of(many).negate())); }
    public int monthOnFar(int cell, int high, int low) { cell(cell); return set(cell, on(month[cell], amount(high, low))); }
    public int monthBackFar(int cell, int high, int low) { cell(cell); return set(cell, on(month[cell], amount(high, low).negate())); }
    public int monthAt(int cell, int many) { cell(cell); return on(month[cell], of(many)).getValue(); }
    public int monthAhead(int cell, int many) { cell(cell); return on(month[cell], of(many).negate()).getValue(); }

    public int monthAtFar(int cell, int high, int low, boolean isBack) {
        cell(cell);
        BigInteger many = amount(high, low);
        return on(month[cell], isBack ? many.negate() : many).getValue();
    }

    public int monthTwice(int cell, int many, int more) { cell(cell); return on(month[cell], of(many).add(of(more))).getValue(); }
    public int monthCopy(int cell, int from) { cell(cell, from); return set(cell, month[from]); }

    public int monthSwap(int cell, int other) {
        cell(cell, other);
        Month mine = month[cell];
        month[cell] = month[other];
        month[other] = mine;
        acts++;
        return month[cell].getValue();
    }

    public int monthOrder(int cell, int other) { cell(cell, other); return Integer.signum(month[cell].compareTo(month[other])); }
    public boolean isSameMonth(int cell, int other) { cell(cell, other); return month[cell] == month[other]; }
    public boolean isMonth(int cell, int number) { cell(cell); number(number, 12); return month[cell] == Month.of(number); }

    public int length(int cell, boolean isLong) { cell(cell); return month[cell].length(isLong); }
    public int least(int cell) { cell(cell); return month[cell].minLength(); }
    public int greatest(int cell) { cell(cell); return month[cell].maxLength(); }
    public int first(int cell, boolean isLong) { cell(cell); return month[cell].firstDayOfYear(isLong); }
    public int quarter(int cell) { cell(cell); return month[cell].firstMonthOfQuarter().getValue(); }

    public int toQuarter(int cell) {
        cell(cell);
        int before = month[cell].getValue();
        return before - set(cell, month[cell].firstMonthOfQuarter());
    }

    private int together(int cell, int dayCell) {
        acts++;
        return 100 * day[dayCell].getValue() + month[cell].getValue();
    }

    public int step(int cell, int dayCell, boolean isLong) {
        cell(cell, dayCell);
        day[dayCell] = day[dayCell].plus(month[cell].length(isLong));
        month[cell] = month[cell].plus(1);
        return together(cell, dayCell);
    }

    public int stepBack(int cell, int dayCell, boolean isLong) {
        cell(cell, dayCell);
        month[cell] = month[cell].minus(1);
        day[dayCell] = day[dayCell].minus(month[cell].length(isLong));
        return together(cell, dayCell);
    }

    /** A year of the calendar that begins with the day and is long, or not: each of the fourteen kinds is found. */
    private static int yearThatBegins(DayOfWeek with, boolean isLong) {
        for (int year = 2000; year < 2400; year++) {
            if (LocalDate.of(year, 1, 1).getDayOfWeek() == with && Year.isLeap(year) == isLong) {
                return year;
            }
        }
        throw new AssertionError("no such year");
    }

    private static int falls(DayOfWeek yearBegins, Month in, boolean isLong, int number) {
        return LocalDate.of(yearThatBegins(yearBegins, isLong), in, number).getDayOfWeek().getValue();
    }

    public int begins(int cell, int dayCell, boolean isLong) {
        cell(cell, dayCell);
        return falls(day[dayCell], month[cell], isLong, 1);
    }

    public int date(int cell, int dayCell, boolean isLong, int number) {
        cell(cell, dayCell);
        number(number, month[cell].length(isLong));
        return falls(day[dayCell], month[cell], isLong, number);
    }

    public boolean areAlike(int cell, int other, boolean isLong) {
        cell(cell, other);
        boolean alike = true;
        for (DayOfWeek begin : DayOfWeek.values()) {
            alike &= falls(begin, month[cell], isLong, 1) == falls(begin, month[other], isLong, 1);
        }
        return alike;
    }

    public int keep(int mark) {
        mark(mark);
        int before = keptDay[mark] == null ? 0 : 1;
        keptDay[mark] = day.clone();
        keptMonth[mark] = month.clone();
        return before;
    }

    public int back(int mark) {
        mark(mark);
        if (keptDay[mark] == null) {
            throw new IllegalStateException();
        }
        int others = 0;
        for (int cell = 0; cell < 4; cell++) {
            others += day[cell] == keptDay[mark][cell] ? 0 : 1;
            others += month[cell] == keptMonth[mark][cell] ? 0 : 1;
        }
        day = keptDay[mark].clone();
        month = keptMonth[mark].clone();
        acts++;
        return others;
    }

    public boolean isKept(int mark) { mark(mark); return keptDay[mark] != null; }
    public String days() { return String.join(" ", dayName(0), dayName(1), dayName(2), dayName(3)); }
    public String months() { return String.join(" ", monthName(0), monthName(1), monthName(2), monthName(3)); }
    public int acts() { return acts; }
    public int knock() { return ++knocks; }
    public boolean isSound() { return true; }

    public long digest() {
        StringBuilder told = new StringBuilder();
        told.append(acts).append(' ').append(knocks);
        for (int cell = 0; cell < 4; cell++) {
            told.append(' ').append(dayNumber(cell)).append(' ').append(monthNumber(cell));
            (dayName(cell) + monthName(cell)).chars().forEach(sign -> told.append(' ').append(sign));
            told.append(' ').append(length(cell, false)).append(' ').append(length(cell, true));
            told.append(' ').append(first(cell, false)).append(' ').append(first(cell, true));
            told.append(' ').append(quarter(cell));
        }
        for (int cell = 0; cell < 4; cell++) {
            for (int other = 0; other < 4; other++) {
                told.append(' ').append(dayOrder(cell, other)).append(' ').append(monthOrder(cell, other));
                told.append(' ').append(areAlike(cell, other, false) ? 1 : 0);
            }
        }
        told.append(' ').append(isKept(0) ? 1 : 0).append(' ').append(isKept(1) ? 1 : 0).append(" 1");
        BigInteger d = of(7793);
        for (String value : told.toString().split(" ")) {
            d = d.multiply(of(31)).add(new BigInteger(value));
        }
        return d.longValue();
    }
}
