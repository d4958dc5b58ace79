import java.lang.reflect.Method;
import java.lang.reflect.Modifier;
import java.math.BigInteger;
import java.time.DayOfWeek;
import java.time.Month;
import java.util.ArrayList;
import java.util.Arrays;
import java.util.List;
import java.util.TreeSet;

/** Each sentence of the promises 1 to 55 that names a boundary case, a test each. */
public final class EdgePromiseTest {
    private static final Checks CHECKS = new Checks();
    private static final int LEAST = Integer.MIN_VALUE;
    private static final int MOST = Integer.MAX_VALUE;
    private static final int[] LENGTHS = {31, 28, 31, 30, 31, 30, 31, 31, 30, 31, 30, 31};

    public static void main(String[] args) {
        CHECKS.run(
                EdgePromiseTest::eachCallThatThrowsIsInTheTables,
                EdgePromiseTest::throwsIfThereIsNoSuchCell,
                EdgePromiseTest::throwsIfThereIsNoSuchOtherCell,
                EdgePromiseTest::throwsIfThereAreNeither,
                EdgePromiseTest::throwsIfThereIsNoSuchMark,
                EdgePromiseTest::throwsIfNumberIsNot1To7,
                EdgePromiseTest::throwsIfNumberIsNot1To12,
                EdgePromiseTest::throwsIfNumberIsNot1ToLength,
                EdgePromiseTest::throwsIfNumberIsNot1ToLengthInSuchAYear,
                EdgePromiseTest::throwsIfNothingIsKeptThere,
                EdgePromiseTest::newDaysAndMonthsAreNobodyElses,
                EdgePromiseTest::becomesTheOneWithANumber,
                EdgePromiseTest::nameOfTheFirstAndTheLast,
                EdgePromiseTest::twiceIsBothOneBehindTheOther,
                EdgePromiseTest::copyOrStays,
                EdgePromiseTest::swapOfTwoAndOfOne,
                EdgePromiseTest::orderAtBothEnds,
                EdgePromiseTest::isSameAtBothEnds,
                EdgePromiseTest::isOneAtBothEnds,
                EdgePromiseTest::leastAndGreatest,
                EdgePromiseTest::toQuarterReturnsHowManyBack,
                EdgePromiseTest::stepGoesOnByTheLengthOfTheOneThatPasses,
                EdgePromiseTest::stepGoesRoundBothEnds,
                EdgePromiseTest::stepBackGoesByTheLengthOfTheOneAhead,
                EdgePromiseTest::stepBackGoesRoundBothEnds,
                EdgePromiseTest::stepsTellBothAsTheyAreThen,
                EdgePromiseTest::beginsOfTheFirstMonth,
                EdgePromiseTest::areAlikeInEachSuchYear,
                EdgePromiseTest::keepReturnsIfSomethingWasKept,
                EdgePromiseTest::keepInPlaceOfWhatWasKept,
                EdgePromiseTest::keepOfOneMarkLeavesTheOther,
                EdgePromiseTest::whatIsKeptDoesNotGoOnWithTheCells,
                EdgePromiseTest::backThatStaysKept,
                EdgePromiseTest::backReturnsHowManyAreOtherOnes,
                EdgePromiseTest::isKeptBehindKeepAlone,
                EdgePromiseTest::namesWithOneSignBetween,
                EdgePromiseTest::actsOfEachOnce,
                EdgePromiseTest::actsBehindWhichAllIsAsAhead,
                EdgePromiseTest::actsOfWhatThrewAreNone,
                EdgePromiseTest::knockTellsWithThis,
                EdgePromiseTest::isSoundFromEachDayAndMonth,
                EdgePromiseTest::digestStartsWithWhatIsAtFirst,
                EdgePromiseTest::digestWrapsAround,
                EdgePromiseTest::digestTellsTheLastKnock,
                EdgePromiseTest::digestTellsIsKeptOfBothMarks,
                EdgePromiseTest::theLastOf512Calls);
        CHECKS.end();
    }

    private static void due(String call, Object want, Object got) {
        CHECKS.due(call, want, got);
    }

    // ---- what throws

    /** The tables of Refusals must leave out no call that the document lets throw. */
    private static void eachCallThatThrowsIsInTheTables() {
        TreeSet<String> due = new TreeSet<>();
        TreeSet<String> dueOfNumbers = new TreeSet<>();
        for (Method method : Ringdays.class.getDeclaredMethods()) {
            List<Class<?>> thrown = Arrays.asList(method.getExceptionTypes());
            if (Modifier.isPublic(method.getModifiers()) && thrown.contains(IndexOutOfBoundsException.class)) {
                due.add(method.getName());
            }
            if (Modifier.isPublic(method.getModifiers()) && thrown.contains(IllegalArgumentException.class)) {
                dueOfNumbers.add(method.getName());
            }
        }
        TreeSet<String> told = new TreeSet<>();
        List.of(Refusals.CELL).forEach(open -> told.add(open.name()));
        List.of(Refusals.MARK).forEach(open -> told.add(open.name()));
        due("tables of cells and marks", due, told);
        due("calls that refuse a number", new TreeSet<>(List.of("date", "day", "isDay", "isMonth", "month")), dueOfNumbers);
    }

    private static void refuses(Refusals.Open[] opens, int[] numbers, Class<? extends RuntimeException> want) {
        for (Refusals.Open open : opens) {
            for (int number : numbers) {
                CHECKS.refusedEverywhere(open.told(number), want, open.call(), number);
            }
        }
    }

    /** Promises 2 to 46: "Throws IndexOutOfBoundsException if there is no such CELL" */
    private static void throwsIfThereIsNoSuchCell() {
        refuses(Refusals.CELL, Refusals.NO_CELLS, IndexOutOfBoundsException.class);
    }

    /** Promises 14 to 17, 31 to 34, 42 to 46: ".. if there is no such CELL (both)", the second one */
    private static void throwsIfThereIsNoSuchOtherCell() {
        refuses(Refusals.OTHER_CELL, Refusals.NO_CELLS, IndexOutOfBoundsException.class);
    }

    /** The same promises: neither one is there, or both are the same one that is not. */
    private static void throwsIfThereAreNeither() {
        Refusals.Open[] both = {
            new Refusals.Open(14, "dayCopy, both", (x, cell) -> x.dayCopy(cell, cell)),
            new Refusals.Open(15, "daySwap, both", (x, cell) -> x.daySwap(cell, cell)),
            new Refusals.Open(16, "dayOrder, both", (x, cell) -> x.dayOrder(cell, cell)),
            new Refusals.Open(17, "isSameDay, both", (x, cell) -> x.isSameDay(cell, cell)),
            new Refusals.Open(31, "monthCopy, both", (x, cell) -> x.monthCopy(cell, cell)),
            new Refusals.Open(32, "monthSwap, both", (x, cell) -> x.monthSwap(cell, cell)),
            new Refusals.Open(33, "monthOrder, both", (x, cell) -> x.monthOrder(cell, cell)),
            new Refusals.Open(34, "isSameMonth, both", (x, cell) -> x.isSameMonth(cell, cell)),
            new Refusals.Open(42, "step, both", (x, cell) -> x.step(cell, cell, true)),
            new Refusals.Open(43, "stepBack, both", (x, cell) -> x.stepBack(cell, cell, true)),
            new Refusals.Open(44, "begins, both", (x, cell) -> x.begins(cell, cell, true)),
            new Refusals.Open(45, "date, both", (x, cell) -> x.date(cell, cell, true, 1)),
            new Refusals.Open(46, "areAlike, both", (x, cell) -> x.areAlike(cell, cell, true)),
        };
        refuses(both, Refusals.NO_CELLS, IndexOutOfBoundsException.class);
    }

    /** Promises 47 to 49: "Throws IndexOutOfBoundsException if there is no such MARK" */
    private static void throwsIfThereIsNoSuchMark() {
        refuses(Refusals.MARK, Refusals.NO_MARKS, IndexOutOfBoundsException.class);
    }

    /** Promises 2 and 18: "Throws IllegalArgumentException if number is not 1 to 7" */
    private static void throwsIfNumberIsNot1To7() {
        refuses(Refusals.DAY_NUMBER, Refusals.outside(7), IllegalArgumentException.class);
    }

    /** Promises 19 and 35: "Throws IllegalArgumentException if number is not 1 to 12" */
    private static void throwsIfNumberIsNot1To12() {
        refuses(Refusals.MONTH_NUMBER, Refusals.outside(12), IllegalArgumentException.class);
    }

    /** Promise 45: "Throws IllegalArgumentException if number is not 1 to LENGTH of the MONTH" */
    private static void throwsIfNumberIsNot1ToLength() {
        refuses(Refusals.DATE_NUMBER, Refusals.outside(31), IllegalArgumentException.class);
        for (int month = 1; month <= 12; month++) {
            Ringdays x = Ring.MONTHS.with(1, month);
            int last = LENGTHS[month - 1];
            String told = "45: date in month " + month;
            due(told + ", its last day", (x.begins(1, 2, false) + last - 2) % 7 + 1, x.date(1, 2, false, last));
            CHECKS.noNumber(told + ", one behind it", x, () -> x.date(1, 2, false, last + 1));
            CHECKS.noNumber(told + ", 0", x, () -> x.date(1, 2, false, 0));
        }
    }

    /** Promise 45: ".. in such a year" */
    private static void throwsIfNumberIsNot1ToLengthInSuchAYear() {
        Ringdays x = Ring.MONTHS.with(1, 2);
        due("45: day 28 of the month 2", 3, x.date(1, 2, false, 28));
        CHECKS.noNumber("45: day 29 of the month 2", x, () -> x.date(1, 2, false, 29));
        due("45: day 29 of the month 2, LONG", 4, x.date(1, 2, true, 29));
        CHECKS.noNumber("45: day 30 of the month 2, LONG", x, () -> x.date(1, 2, true, 30));
    }

    /** Promise 48: "Throws IllegalStateException if nothing is kept there" */
    private static void throwsIfNothingIsKeptThere() {
        for (int mark = 0; mark < 2; mark++) {
            int empty = mark;
            Ringdays x = Samples.made(1);
            CHECKS.refused("48: back, nothing kept", IllegalStateException.class, x, () -> x.back(empty));
            x.keep(1 - mark);
            CHECKS.refused("48: back, kept under the other one", IllegalStateException.class, x, () -> x.back(empty));
            due("48: back of the other one", 0, x.back(1 - mark));
            x.keep(mark);
            due("48: back, kept then", 0, x.back(mark));
        }
    }

    // ---- days and months

    /** Promise 1: "Creates four DAYS and four MONTHS with the number 1." */
    private static void newDaysAndMonthsAreNobodyElses() {
        Ringdays used = Samples.made(3);
        String before = Samples.all(new Ringdays());
        due("1: a new object beside a used one", before, Samples.all(new Ringdays()));
        due("1: the used one is as it was", Samples.all(Samples.made(3)), Samples.all(used));
    }

    /** Promises 2 and 19: "becomes the one with a number", "Returns the number before." */
    private static void becomesTheOneWithANumber() {
        for (Ring ring : Ring.BOTH) {
            Ringdays x = new Ringdays();
            due(ring.told + " 1 to the last", 1, ring.set(x, 3, ring.size));
            due(ring.told + " the last to itself", ring.size, ring.set(x, 3, ring.size));
            due(ring.told + " the last to 1", ring.size, ring.set(x, 3, 1));
            due(ring.told + " 1 to itself", 1, ring.set(x, 3, 1));
            due(ring.told + " then", "1,1,1,1,1,1,1,1,", Samples.eight(x));
        }
    }

    /** Promises 5 and 22: "Returns the NAME": the table's ends, and that none of the names between is another one. */
    private static void nameOfTheFirstAndTheLast() {
        due("5: dayName of 1", "MONDAY", Ring.DAYS.with(0, 1).dayName(0));
        due("5: dayName of 7", "SUNDAY", Ring.DAYS.with(3, 7).dayName(3));
        due("22: monthName of 1", "JANUARY", Ring.MONTHS.with(0, 1).monthName(0));
        due("22: monthName of 12", "DECEMBER", Ring.MONTHS.with(3, 12).monthName(3));
        for (DayOfWeek day : DayOfWeek.values()) {
            due("5: dayName", day.name(), Ring.DAYS.with(1, day.getValue()).dayName(1));
        }
        for (Month month : Month.values()) {
            due("22: monthName", month.name(), Ring.MONTHS.with(2, month.getValue()).monthName(2));
        }
    }

    /** Promises 13 and 30: "to which one comes by both, one behind the other": both together have 33 bits. */
    private static void twiceIsBothOneBehindTheOther() {
        int[] edges = {LEAST, LEAST + 1, -13, -1, 0, 1, 13, MOST - 1, MOST};
        for (Ring ring : Ring.BOTH) {
            for (int many : edges) {
                for (int more : edges) {
                    Ringdays x = ring.with(1, ring.size);
                    BigInteger sum = BigInteger.valueOf(many).add(BigInteger.valueOf(more));
                    int rest = sum.mod(BigInteger.valueOf(ring.size)).intValue();
                    String told = ring.told + "Twice(1, " + many + ", " + more + ")";
                    due(told, ring.numberOn(ring.size, rest), ring.twice(x, 1, many, more));
                    due(told + ", only asked", ring.size, ring.number(x, 1));
                }
            }
        }
    }

    /** Promises 14 and 31: "becomes that of another CELL (or stays)." */
    private static void copyOrStays() {
        for (Ring ring : Ring.BOTH) {
            Ringdays x = ring.with(3, ring.size);
            due(ring.told + "Copy of the last", ring.size, ring.copy(x, 0, 3));
            due(ring.told + "Copy of the same one", ring.size, ring.copy(x, 0, 3));
            due(ring.told + "Copy of its own cell", ring.size, ring.copy(x, 3, 3));
            due(ring.told + "Copy of the first", 1, ring.copy(x, 3, 1));
            due(ring.told + "s then", ring.size, ring.number(x, 0));
            due(ring.told + "s then, of the copy", 1, ring.number(x, 3));
            due(ring.told + "s then, of the others", 2, ring.number(x, 1) + ring.number(x, 2));
        }
    }

    /** Promises 15 and 32: "Two CELLS change", "Returns the number .. of the first one then." */
    private static void swapOfTwoAndOfOne() {
        for (Ring ring : Ring.BOTH) {
            Ringdays x = ring.with(3, ring.size);
            due(ring.told + "Swap of both ends", ring.size, ring.swap(x, 0, 3));
            due(ring.told + "s then, the other one", 1, ring.number(x, 3));
            due(ring.told + "Swap back", 1, ring.swap(x, 0, 3));
            due(ring.told + "s then, the other one again", ring.size, ring.number(x, 3));
            due(ring.told + "Swap of one cell with itself", ring.size, ring.swap(x, 3, 3));
            due(ring.told + "s then, that one", ring.size, ring.number(x, 3));
            due(ring.told + "Swap of two that are the same", 1, ring.swap(x, 1, 2));
            due(ring.told + "Swap, the first one behind the other", 1, ring.swap(x, 3, 1));
            due(ring.told + "s then, the other one ahead of it", ring.size, ring.number(x, 1));
            due(ring.told + "s then, the first one", 1, ring.number(x, 3));
        }
    }

    /** Promises 16 and 33: "-1 if .. the smaller number, 1 if .. the greater one, 0 if both are the same." */
    private static void orderAtBothEnds() {
        for (Ring ring : Ring.BOTH) {
            for (int one = 1; one <= ring.size; one++) {
                for (int another = 1; another <= ring.size; another++) {
                    Ringdays x = ring.with(3, one);
                    ring.set(x, 0, another);
                    int due = one < another ? -1 : one > another ? 1 : 0;
                    due(ring.told + "Order " + one + ", " + another, due, ring.order(x, 3, 0));
                }
            }
            due(ring.told + "Order of itself", 0, ring.order(ring.with(3, ring.size), 3, 3));
        }
    }

    /** Promises 17 and 34: "Returns whether both have the same" */
    private static void isSameAtBothEnds() {
        for (Ring ring : Ring.BOTH) {
            Ringdays x = ring.with(3, ring.size);
            due(ring.told + "s, the last and the first", false, ring.isSame(x, 3, 0));
            due(ring.told + "s, the first and the last", false, ring.isSame(x, 0, 3));
            due(ring.told + "s, itself", true, ring.isSame(x, 3, 3));
            due(ring.told + "s, the first and the first", true, ring.isSame(x, 1, 2));
            ring.on(x, 3, 1);
            due(ring.told + "s, round the end", true, ring.isSame(x, 3, 0));
        }
    }

    /** Promises 18 and 35: "Returns whether its DAY [MONTH] is the one with that number." */
    private static void isOneAtBothEnds() {
        for (Ring ring : Ring.BOTH) {
            due(ring.told + " 1, told 1", true, ring.isOne(ring.with(0, 1), 0, 1));
            due(ring.told + " 1, told the last", false, ring.isOne(ring.with(0, 1), 0, ring.size));
            due(ring.told + " the last, told 1", false, ring.isOne(ring.with(3, ring.size), 3, 1));
            due(ring.told + " the last, told the last", true, ring.isOne(ring.with(3, ring.size), 3, ring.size));
        }
    }

    /** Promises 37 and 38: "the smaller one of both LENGTHS", "the greater one of both LENGTHS" */
    private static void leastAndGreatest() {
        for (int month = 1; month <= 12; month++) {
            Ringdays x = Ring.MONTHS.with(2, month);
            due("37: least of " + month, LENGTHS[month - 1], x.least(2));
            due("38: greatest of " + month, month == 2 ? 29 : LENGTHS[month - 1], x.greatest(2));
        }
    }

    /** Promise 41: "becomes the one with which its QUARTER begins", "Returns how many back that was." */
    private static void toQuarterReturnsHowManyBack() {
        for (int month = 1; month <= 12; month++) {
            Ringdays x = Ring.MONTHS.with(1, month);
            int back = (month - 1) % 3;
            due("41: toQuarter of " + month, back, x.toQuarter(1));
            due("41: monthNumber then", month - back, x.monthNumber(1));
            due("41: toQuarter where it begins", 0, x.toQuarter(1));
            due("41: monthNumber then, again", month - back, x.monthNumber(1));
        }
    }

    // ---- both together

    private static Ringdays both(int month, int day) {
        Ringdays x = Ring.MONTHS.with(3, month);
        x.day(0, day);
        return x;
    }

    private static int hundreds(int day, int month) {
        return 100 * day + month;
    }

    /** Promise 42: "the DAY of another one goes on by its LENGTH; then the MONTH becomes the next one." */
    private static void stepGoesOnByTheLengthOfTheOneThatPasses() {
        for (int month = 1; month <= 12; month++) {
            for (int day = 1; day <= 7; day++) {
                int plain = LENGTHS[month - 1];
                int inLong = month == 2 ? 29 : plain;
                int next = month % 12 + 1;
                String told = "42: step of month " + month + ", day " + day;
                due(told, hundreds((day - 1 + plain) % 7 + 1, next), both(month, day).step(3, 0, false));
                due(told + ", LONG", hundreds((day - 1 + inLong) % 7 + 1, next), both(month, day).step(3, 0, true));
            }
        }
    }

    /** Promise 42, "the next one": "from the one with 12 that with 1"; and the day goes round its end. */
    private static void stepGoesRoundBothEnds() {
        due("42: step from 12, day 7", 301, both(12, 7).step(3, 0, true));
        due("42: step from 12, day 4", 701, both(12, 4).step(3, 0, false));
        due("42: step from 12, day 5", 101, both(12, 5).step(3, 0, false));
        due("42: step from 11, day 6", 112, both(11, 6).step(3, 0, false));
    }

    /** Promise 43: "the MONTH becomes the one ahead of it; then the DAY goes back by the LENGTH of that." */
    private static void stepBackGoesByTheLengthOfTheOneAhead() {
        for (int month = 1; month <= 12; month++) {
            for (int day = 1; day <= 7; day++) {
                int ahead = month == 1 ? 12 : month - 1;
                int plain = LENGTHS[ahead - 1];
                int inLong = ahead == 2 ? 29 : plain;
                String told = "43: stepBack of month " + month + ", day " + day;
                due(told, hundreds((day - 1 + 35 - plain) % 7 + 1, ahead), both(month, day).stepBack(3, 0, false));
                due(told + ", LONG", hundreds((day - 1 + 35 - inLong) % 7 + 1, ahead), both(month, day).stepBack(3, 0, true));
            }
        }
    }

    /** Promise 43, "the one ahead of it": from the one with 1 that with 12; and the day goes round its end. */
    private static void stepBackGoesRoundBothEnds() {
        due("43: stepBack from 1, day 1", 512, both(1, 1).stepBack(3, 0, true));
        due("43: stepBack from 1, day 3", 712, both(1, 3).stepBack(3, 0, false));
        due("43: stepBack from 1, day 4", 112, both(1, 4).stepBack(3, 0, false));
        due("43: stepBack from 2, day 2", 601, both(2, 2).stepBack(3, 0, false));
    }

    /** Promises 42 and 43: "both as they are then." The other cells stay. */
    private static void stepsTellBothAsTheyAreThen() {
        for (int monthCell = 0; monthCell < 4; monthCell++) {
            for (int dayCell = 0; dayCell < 4; dayCell++) {
                Ringdays x = Samples.made(1);
                x.month(monthCell, 12);
                x.day(dayCell, 7);
                String before = Samples.eight(x);
                due("42: step", 301, x.step(monthCell, dayCell, false));
                due("42: dayNumber then", 3, x.dayNumber(dayCell));
                due("42: monthNumber then", 1, x.monthNumber(monthCell));
                due("43: stepBack", 712, x.stepBack(monthCell, dayCell, true));
                due("43: all eight behind both", before, Samples.eight(x));
            }
        }
    }

    /** Promise 44: "the DAY with which the MONTH begins in such a year": the first one with that of the year. */
    private static void beginsOfTheFirstMonth() {
        for (int day = 1; day <= 7; day++) {
            due("44: begins of month 1", day, both(1, day).begins(3, 0, false));
            due("44: begins of month 1, LONG", day, both(1, day).begins(3, 0, true));
            due("44: begins of month 3", Ring.DAYS.numberOn(day, 3), both(3, day).begins(3, 0, false));
            due("44: begins of month 3, LONG", Ring.DAYS.numberOn(day, 4), both(3, day).begins(3, 0, true));
        }
    }

    /** Promise 46: "whether both MONTHS begin with the same DAY in each such year." */
    private static void areAlikeInEachSuchYear() {
        for (int one = 1; one <= 12; one++) {
            for (int another = 1; another <= 12; another++) {
                Ringdays x = Ring.MONTHS.with(0, one);
                x.month(3, another);
                due("46: areAlike " + one + ", " + another, beginAlike(x, false), x.areAlike(0, 3, false));
                due("46: areAlike " + one + ", " + another + ", LONG", beginAlike(x, true), x.areAlike(0, 3, true));
            }
        }
        Ringdays x = Ring.MONTHS.with(0, 3);
        x.month(3, 2);
        due("46: months 2 and 3", true, x.areAlike(0, 3, false));
        due("46: months 2 and 3, LONG", false, x.areAlike(0, 3, true));
        due("46: areAlike with itself", true, x.areAlike(3, 3, true));
    }

    private static boolean beginAlike(Ringdays x, boolean isLong) {
        boolean alike = true;
        for (int day = 1; day <= 7; day++) {
            x.day(1, day);
            alike &= x.begins(0, 1, isLong) == x.begins(3, 1, isLong);
        }
        return alike;
    }

    // ---- all of it

    /** Promise 47: "Returns 1 if something was kept there, otherwise 0." */
    private static void keepReturnsIfSomethingWasKept() {
        Ringdays x = new Ringdays();
        due("47: keep(1), nothing kept", 0, x.keep(1));
        due("47: keep(1), something kept", 1, x.keep(1));
        due("47: keep(0), nothing kept there", 0, x.keep(0));
        due("47: keep(0), something kept there", 1, x.keep(0));
        x.back(0);
        due("47: keep(0), it stays kept behind back(0)", 1, x.keep(0));
    }

    /** Promise 47: "(in place of what was kept there)" */
    private static void keepInPlaceOfWhatWasKept() {
        for (int mark = 0; mark < 2; mark++) {
            Ringdays x = new Ringdays();
            x.keep(mark);
            setAll(x, 7, 12);
            x.keep(mark);
            setAll(x, 2, 2);
            due("47, 48: back to what was kept last", 8, x.back(mark));
            due("47, 48: all eight then", "7,7,7,7,12,12,12,12,", Samples.eight(x));
        }
    }

    private static void setAll(Ringdays x, int day, int month) {
        for (int cell = 0; cell < 4; cell++) {
            x.day(cell, day);
            x.month(cell, month);
        }
    }

    /** Promise 47: "kept under a MARK": the other one keeps what it kept. */
    private static void keepOfOneMarkLeavesTheOther() {
        for (int mark = 0; mark < 2; mark++) {
            Ringdays x = Samples.made(1);
            String before = Samples.eight(x);
            x.keep(mark);
            due("49: isKept of the other one", false, x.isKept(1 - mark));
            setAll(x, 1, 1);
            x.keep(1 - mark);
            x.back(mark);
            due("48: all eight of this one", before, Samples.eight(x));
            x.back(1 - mark);
            due("48: all eight of the other one", "1,1,1,1,1,1,1,1,", Samples.eight(x));
        }
    }

    /** Promises 47 and 48: "are kept", "are again what was kept": no later call reaches what is kept. */
    private static void whatIsKeptDoesNotGoOnWithTheCells() {
        for (int mark = 0; mark < 2; mark++) {
            Ringdays x = new Ringdays();
            x.keep(mark);
            x.dayOn(0, 1);
            x.monthSwap(0, 3);
            x.step(3, 2, true);
            x.toQuarter(1);
            x.back(mark);
            due("48: as it was kept", "1,1,1,1,1,1,1,1,", Samples.eight(x));
            x.dayBack(3, 1);
            x.monthBack(3, 1);
            x.back(mark);
            due("48: as it was kept, behind back() too", "1,1,1,1,1,1,1,1,", Samples.eight(x));
        }
    }

    /** Promise 48: "(that stays kept)" */
    private static void backThatStaysKept() {
        for (int mark = 0; mark < 2; mark++) {
            Ringdays x = Samples.made(1);
            String before = Samples.eight(x);
            x.keep(mark);
            for (int turn = 1; turn <= 3; turn++) {
                setAll(x, 1, 1);
                x.back(mark);
                due("48: back, turn " + turn, before, Samples.eight(x));
                due("49: isKept behind back, turn " + turn, true, x.isKept(mark));
            }
        }
    }

    /** Promise 48: "Returns how many of the eight are other ones than ahead of that." */
    private static void backReturnsHowManyAreOtherOnes() {
        for (int others = 0; others < 256; others++) {
            Ringdays x = Samples.made(1);
            x.keep(1);
            for (int place = 0; place < 8; place++) {
                if ((others >> place & 1) == 1) {
                    Ring ring = Ring.BOTH[place / 4];
                    ring.on(x, place % 4, 1);
                }
            }
            due("48: back, others " + Integer.toBinaryString(others), Integer.bitCount(others), x.back(1));
            due("48: back again", 0, x.back(1));
        }
        Ringdays x = Samples.made(1);
        x.keep(0);
        x.dayOn(0, 1);
        x.dayOn(0, -1);
        x.monthOn(0, 12);
        due("48: back, on and back again", 0, x.back(0));
        x.daySwap(0, 1);
        due("48: back of two that changed", 2, x.back(0));
    }

    /** Promise 49: "Returns whether something is kept there." */
    private static void isKeptBehindKeepAlone() {
        for (int mark = 0; mark < 2; mark++) {
            Ringdays x = Samples.made(1);
            due("49: isKept, nothing kept", false, x.isKept(mark));
            x.keep(mark);
            due("49: isKept, something kept", true, x.isKept(mark));
            due("49: isKept, nothing kept under the other one", false, x.isKept(1 - mark));
        }
        Ringdays x = new Ringdays();
        x.keep(0);
        due("49: what is kept is as at first", true, x.isKept(0));
    }

    /** Promises 50 and 51: "CELL by CELL, with " " between": none ahead, none behind. */
    private static void namesWithOneSignBetween() {
        for (Ring ring : Ring.BOTH) {
            for (int number = 1; number <= ring.size; number++) {
                Ringdays x = ring.with(0, number);
                ring.set(x, 1, ring.numberOn(number, 1));
                ring.set(x, 2, ring.numberOn(number, 2));
                ring.set(x, 3, ring.size);
                String due = String.join(" ", ring.name(x, 0), ring.name(x, 1), ring.name(x, 2), ring.name(x, 3));
                due(ring.told + "s()", due, ring.names(x));
            }
        }
    }

    /** Promise 52's calls; in a new object that keeps itself under 0 all is as ahead behind each, or the next one. */
    private static List<Refusals.Call> acts() {
        return List.of(
                (x, none) -> x.day(0, 1), (x, none) -> x.dayOn(1, 0), (x, none) -> x.dayBack(2, 7),
                (x, none) -> x.dayOnFar(3, 0, 7), (x, none) -> x.dayBackFar(0, -1, -7),
                (x, none) -> x.dayCopy(1, 1), (x, none) -> x.daySwap(2, 3),
                (x, none) -> x.month(0, 1), (x, none) -> x.monthOn(1, 0), (x, none) -> x.monthBack(2, 12),
                (x, none) -> x.monthOnFar(3, 0, 12), (x, none) -> x.monthBackFar(0, -1, -12),
                (x, none) -> x.monthCopy(1, 1), (x, none) -> x.monthSwap(2, 3),
                (x, none) -> x.toQuarter(3), (x, none) -> x.back(0),
                (x, none) -> x.step(0, 1, true), (x, none) -> x.stepBack(0, 1, true));
    }

    /** Promise 52: "how many calls .. there were that threw nothing" */
    private static void actsOfEachOnce() {
        List<Refusals.Call> acts = acts();
        due("52: how many calls are acts", 18, acts.size());
        for (int place = 0; place < acts.size(); place++) {
            Ringdays x = new Ringdays();
            x.keep(0);
            due("52: keep is no act", 0, x.acts());
            for (int often = 1; often <= 3; often++) {
                acts.get(place).answer(x, 0);
                due("52: acts behind call " + place, often, x.acts());
            }
        }
    }

    /** Promise 52: "(also those behind which all is as ahead)" */
    private static void actsBehindWhichAllIsAsAhead() {
        Ringdays x = new Ringdays();
        x.keep(0);
        int due = 0;
        for (Refusals.Call act : acts()) {
            act.answer(x, 0);
            due++;
            due("52: acts, all as ahead", due, x.acts());
            if (due != 17) {
                due("52: all eight as ahead, behind act " + due, "1,1,1,1,1,1,1,1,", Samples.eight(x));
            }
        }
    }

    /** Promise 52: "that threw nothing" */
    private static void actsOfWhatThrewAreNone() {
        for (Refusals.Open open : Refusals.allOfCells()) {
            Ringdays x = Samples.made(3);
            int before = x.acts();
            CHECKS.noCell("52: " + open.told(4), x, () -> open.call().answer(x, 4));
            due("52: acts behind " + open.told(4), before, x.acts());
        }
        Ringdays x = new Ringdays();
        CHECKS.noNumber("52: day(0, 0)", x, () -> x.day(0, 0));
        CHECKS.noNumber("52: month(0, 13)", x, () -> x.month(0, 13));
        CHECKS.noCell("52: back(2)", x, () -> x.back(2));
        CHECKS.refused("52: back(0)", IllegalStateException.class, x, () -> x.back(0));
        due("52: acts behind what threw", 0, x.acts());
        x.dayOn(0, 1);
        due("52: acts behind an act then", 1, x.acts());
    }

    /** Promise 53: "Returns how often one knocked, with this." */
    private static void knockTellsWithThis() {
        Ringdays x = Samples.made(0);
        due("53: knock() at first", 1, x.knock());
        CHECKS.noCell("53: dayOn(4, 1)", x, () -> x.dayOn(4, 1));
        x.keep(0);
        due("53: knock() behind other calls", 2, x.knock());
        x.back(0);
        due("53: knock() behind back()", 3, x.knock());
        due("53: a knock is no act", 1, x.acts());
    }

    /** Promise 54, "twelve steps from the MONTH of each CELL lead its DAY one on, in a LONG year two on" */
    private static void isSoundFromEachDayAndMonth() {
        for (int month = 1; month <= 12; month++) {
            for (int day = 1; day <= 7; day++) {
                Ringdays x = both(month, day);
                due("54: isSound()", true, x.isSound());
                due("54: acts behind isSound()", 2, x.acts());
                int plain = 0;
                int inLong = 0;
                for (int turn = 0; turn < 12; turn++) {
                    plain = x.step(3, 0, false);
                    x.dayCopy(1, 0);
                }
                due("54: twelve steps", hundreds(Ring.DAYS.numberOn(day, 1), month), plain);
                for (int turn = 0; turn < 12; turn++) {
                    inLong = x.step(3, 0, true);
                }
                due("54: twelve steps, LONG", hundreds(Ring.DAYS.numberOn(day, 3), month), inLong);
                due("54: isSound() behind them", true, x.isSound());
            }
        }
        for (int which = 0; which < Samples.COUNT; which++) {
            due("54: isSound(), sample " + which, true, Samples.made(which).isSound());
        }
    }

    /** Promise 55 in the document's words, over what the object itself answers; knocks is what knock() told last. */
    private static BigInteger digestOf(Ringdays x, int knocks) {
        List<Integer> values = new ArrayList<>(List.of(x.acts(), knocks));
        for (int cell = 0; cell < 4; cell++) {
            values.addAll(List.of(x.dayNumber(cell), x.monthNumber(cell)));
            (x.dayName(cell) + x.monthName(cell)).chars().forEach(values::add);
            values.addAll(List.of(x.length(cell, false), x.length(cell, true)));
            values.addAll(List.of(x.first(cell, false), x.first(cell, true), x.quarter(cell)));
        }
        for (int cell = 0; cell < 4; cell++) {
            for (int other = 0; other < 4; other++) {
                values.addAll(List.of(x.dayOrder(cell, other), x.monthOrder(cell, other)));
                values.add(x.areAlike(cell, other, false) ? 1 : 0);
            }
        }
        values.addAll(List.of(x.isKept(0) ? 1 : 0, x.isKept(1) ? 1 : 0, x.isSound() ? 1 : 0));
        BigInteger d = BigInteger.valueOf(7793);
        for (int value : values) {
            d = d.multiply(BigInteger.valueOf(31)).add(BigInteger.valueOf(value));
        }
        return d;
    }

    /** Promise 55: "(0 at first)" of acts() and knock() */
    private static void digestStartsWithWhatIsAtFirst() {
        due("55: digest() of a new object", digestOf(new Ringdays(), 0).longValue(), new Ringdays().digest());
    }

    /** Promise 55: "which wraps around as a 64-bit integer", with the orders below 0 in it */
    private static void digestWrapsAround() {
        for (int month = 1; month <= 12; month++) {
            for (int day = 1; day <= 7; day++) {
                Ringdays x = both(month, day);
                x.month(1, 13 - month);
                x.day(2, 8 - day);
                BigInteger whole = digestOf(x, 0);
                due("55: it is far beyond 64 bits", true, whole.bitLength() > 64);
                due("55: digest(), month " + month + ", day " + day, whole.longValue(), x.digest());
            }
        }
    }

    /** Promise 55: "knock() as it was told last": digest() itself does not knock. */
    private static void digestTellsTheLastKnock() {
        Ringdays x = new Ringdays();
        for (int knocks = 1; knocks <= 5; knocks++) {
            x.knock();
            due("55: digest() behind knocks", digestOf(x, knocks).longValue(), x.digest());
            due("55: digest() again", digestOf(x, knocks).longValue(), x.digest());
        }
        due("55: knock() behind digest()", 6, x.knock());
    }

    /** Promise 55: "isKept() of both MARKS as 1 or 0" */
    private static void digestTellsIsKeptOfBothMarks() {
        for (int mark = 0; mark < 2; mark++) {
            Ringdays x = new Ringdays();
            long before = x.digest();
            x.keep(mark);
            due("55: digest() behind keep(" + mark + ")", before + (mark == 0 ? 31 * 31 : 31), x.digest());
            x.keep(1 - mark);
            due("55: digest() behind both", before + 31 * 31 + 31, x.digest());
        }
    }

    /** "An object is used for at most 512 calls after it has been made": the last ones are as good as the first. */
    private static void theLastOf512Calls() {
        Ringdays acted = new Ringdays();
        for (int call = 1; call <= 511; call++) {
            acted.dayOn(call % 4, call);
        }
        due("acts() as call 512", 511, acted.acts());
        Ringdays knocked = new Ringdays();
        for (int call = 1; call <= 511; call++) {
            knocked.knock();
        }
        due("knock() as call 512", 512, knocked.knock());
        Ringdays kept = new Ringdays();
        for (int call = 1; call <= 510; call++) {
            kept.keep(call % 2);
        }
        kept.monthOn(0, 1);
        due("back(0) as call 512", 1, kept.back(0));
        Ringdays refused = new Ringdays();
        for (int call = 1; call <= 511; call++) {
            CHECKS.due("call " + call, 1, throwsOf(refused));
        }
        due("digest() as call 512", digestOf(new Ringdays(), 0).longValue(), refused.digest());
    }

    private static int throwsOf(Ringdays x) {
        try {
            x.dayOn(4, 1);
            return 0;
        } catch (IndexOutOfBoundsException e) {
            return 1;
        }
    }
}
