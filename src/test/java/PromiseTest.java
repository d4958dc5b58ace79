/** Each promise by its number: ordinary inputs, some edges, and calls that throw; the Edge tests have every edge. */
public final class PromiseTest {
    private static final Checks CHECKS = new Checks();
    private static final int LEAST = Integer.MIN_VALUE;
    private static final int MOST = Integer.MAX_VALUE;
    private static final int[] NO_MARKS = {-1, 2, LEAST, MOST};
    private static final String[] DAYS = {
        "MONDAY", "TUESDAY", "WEDNESDAY", "THURSDAY", "FRIDAY", "SATURDAY", "SUNDAY"
    };
    private static final String[] MONTHS = {
        "JANUARY", "FEBRUARY", "MARCH", "APRIL", "MAY", "JUNE",
        "JULY", "AUGUST", "SEPTEMBER", "OCTOBER", "NOVEMBER", "DECEMBER"
    };
    private static final int[] LENGTHS = {31, 28, 31, 30, 31, 30, 31, 31, 30, 31, 30, 31};
    private static final int[] FIRSTS = {1, 32, 60, 91, 121, 152, 182, 213, 244, 274, 305, 335};
    private static final int[] QUARTERS = {1, 1, 1, 4, 4, 4, 7, 7, 7, 10, 10, 10};

    public static void main(String[] args) {
        promise1New();
        promises2To5Day();
        promises6To9DayOnAndBack();
        promises10To13DayAt();
        promises14And15DayCopyAndSwap();
        promises16To18DaysCompared();
        promises19To22Month();
        promises23To26MonthOnAndBack();
        promises27To30MonthAt();
        promises31And32MonthCopyAndSwap();
        promises33To35MonthsCompared();
        promises36To41MonthTables();
        promise41ToQuarterMoves();
        promise42Step();
        promise43StepBack();
        promise44Begins();
        promise45Date();
        promise46AreAlike();
        promises47To49Kept();
        promises50And51Names();
        promise52Acts();
        promise52ThrowsNotCounted();
        promise53Knock();
        promise54IsSound();
        promise55Digest();
        CHECKS.end();
    }

    private static void due(String call, Object want, Object got) {
        CHECKS.due(call, want, got);
    }

    private static Ringdays withDay(int cell, int number) {
        Ringdays x = new Ringdays();
        x.day(cell, number);
        return x;
    }

    private static Ringdays withMonth(int cell, int number) {
        Ringdays x = new Ringdays();
        x.month(cell, number);
        return x;
    }

    private static Ringdays withBoth(int monthCell, int month, int dayCell, int day) {
        Ringdays x = withMonth(monthCell, month);
        x.day(dayCell, day);
        return x;
    }

    private static void promise1New() {
        Ringdays x = new Ringdays();
        for (int cell = 0; cell < 4; cell++) {
            due("1: dayNumber", 1, x.dayNumber(cell));
            due("1: monthNumber", 1, x.monthNumber(cell));
        }
        due("1: isKept(0)", false, x.isKept(0));
        due("1: isKept(1)", false, x.isKept(1));
        due("1: acts()", 0, x.acts());
        x.day(0, 5);
        due("1: another object is another one", 1, new Ringdays().dayNumber(0));
    }

    private static void promises2To5Day() {
        for (int cell = 0; cell < 4; cell++) {
            Ringdays x = new Ringdays();
            for (int number = 1; number <= 7; number++) {
                due("2: day", Math.max(number - 1, 1), x.day(cell, number));
                due("3: dayNumber", number, x.dayNumber(cell));
                due("4: dayPlace", number - 1, x.dayPlace(cell));
                due("5: dayName", DAYS[number - 1], x.dayName(cell));
                due("3: dayNumber of another cell", 1, x.dayNumber((cell + 1) % 4));
            }
        }
        Ringdays x = withDay(2, 4);
        for (int number : new int[] {0, 8, -1, 12, LEAST, MOST}) {
            CHECKS.noNumber("2: day(2, " + number + ")", x, () -> x.day(2, number));
            CHECKS.noCell("2: day(4, " + number + ")", x, () -> x.day(4, number));
        }
    }

    private static void promises6To9DayOnAndBack() {
        due("6: dayOn(0, 0)", 1, new Ringdays().dayOn(0, 0));
        due("6: dayOn(0, 1)", 2, new Ringdays().dayOn(0, 1));
        due("6: dayOn(0, 7)", 1, new Ringdays().dayOn(0, 7));
        due("6: dayOn(0, -1)", 7, new Ringdays().dayOn(0, -1));
        due("6: dayOn(1, 1) from 7", 1, withDay(1, 7).dayOn(1, 1));
        due("6: dayOn(1, most) from 7", 1, withDay(1, 7).dayOn(1, MOST));
        due("6: dayOn(1, least) from 1", 6, withDay(1, 1).dayOn(1, LEAST));
        due("7: dayBack(0, 0)", 1, new Ringdays().dayBack(0, 0));
        due("7: dayBack(0, 1)", 7, new Ringdays().dayBack(0, 1));
        due("7: dayBack(0, -1)", 2, new Ringdays().dayBack(0, -1));
        due("7: dayBack(1, most) from 1", 7, withDay(1, 1).dayBack(1, MOST));
        due("7: dayBack(1, least) from 6", 1, withDay(1, 6).dayBack(1, LEAST));
        due("8: dayOnFar(0, 0, 7)", 1, new Ringdays().dayOnFar(0, 0, 7));
        due("8: dayOnFar(0, 0, 8)", 2, new Ringdays().dayOnFar(0, 0, 8));
        due("8: dayOnFar(0, -1, -1)", 7, new Ringdays().dayOnFar(0, -1, -1));
        due("8: dayOnFar(0, 0, -1)", 4, new Ringdays().dayOnFar(0, 0, -1));
        due("8: dayOnFar(0, 1, 0)", 5, new Ringdays().dayOnFar(0, 1, 0));
        due("8: dayOnFar(0, most, -1)", 1, new Ringdays().dayOnFar(0, MOST, -1));
        due("8: dayOnFar(3, most, -1) from 7", 7, withDay(3, 7).dayOnFar(3, MOST, -1));
        due("8: dayOnFar(0, least, 0)", 7, new Ringdays().dayOnFar(0, LEAST, 0));
        due("9: dayBackFar(0, 0, 8)", 7, new Ringdays().dayBackFar(0, 0, 8));
        due("9: dayBackFar(0, -1, -1)", 2, new Ringdays().dayBackFar(0, -1, -1));
        due("9: dayBackFar(0, 0, -1)", 5, new Ringdays().dayBackFar(0, 0, -1));
        due("9: dayBackFar(0, most, -1)", 1, new Ringdays().dayBackFar(0, MOST, -1));
        due("9: dayBackFar(0, least, 0)", 2, new Ringdays().dayBackFar(0, LEAST, 0));
        Ringdays x = new Ringdays();
        x.dayOn(0, 1);
        x.dayBack(1, 1);
        x.dayOnFar(2, 0, 2);
        x.dayBackFar(3, 0, 2);
        due("6 to 9: the cells then", "TUESDAY SUNDAY WEDNESDAY SATURDAY", x.days());
    }

    private static void promises10To13DayAt() {
        Ringdays x = withDay(3, 7);
        due("10: dayAt(3, 0)", 7, x.dayAt(3, 0));
        due("10: dayAt(3, 1)", 1, x.dayAt(3, 1));
        due("10: dayAt(3, -6)", 1, x.dayAt(3, -6));
        due("10: dayAt(3, -7)", 7, x.dayAt(3, -7));
        due("10: dayAt(3, most)", 1, x.dayAt(3, MOST));
        due("10: dayAt(3, least)", 5, x.dayAt(3, LEAST));
        due("11: dayAhead(3, 13)", 1, x.dayAhead(3, 13));
        due("11: dayAhead(3, -2)", 2, x.dayAhead(3, -2));
        due("11: dayAhead(3, most)", 6, x.dayAhead(3, MOST));
        due("11: dayAhead(3, least)", 2, x.dayAhead(3, LEAST));
        due("12: dayAtFar(3, 0, 7, false)", 7, x.dayAtFar(3, 0, 7, false));
        due("12: dayAtFar(3, -1, -1, false)", 6, x.dayAtFar(3, -1, -1, false));
        due("12: dayAtFar(3, -1, -1, true)", 1, x.dayAtFar(3, -1, -1, true));
        due("12: dayAtFar(3, least, 0, false)", 6, x.dayAtFar(3, LEAST, 0, false));
        due("12: dayAtFar(3, least, 0, true)", 1, x.dayAtFar(3, LEAST, 0, true));
        due("12: dayAtFar(3, 0, least, true)", 5, x.dayAtFar(3, 0, LEAST, true));
        due("13: dayTwice(3, 5, -5)", 7, x.dayTwice(3, 5, -5));
        due("13: dayTwice(3, 1, 2)", 3, x.dayTwice(3, 1, 2));
        due("13: dayTwice(3, most, most)", 2, x.dayTwice(3, MOST, MOST));
        due("13: dayTwice(3, least, least)", 3, x.dayTwice(3, LEAST, LEAST));
        due("10 to 13: the day stays", 7, x.dayNumber(3));
        due("10 to 13: no acts", 1, x.acts());
    }

    private static void promises14And15DayCopyAndSwap() {
        Ringdays x = withDay(1, 5);
        x.day(2, 3);
        due("14: dayCopy(0, 1)", 5, x.dayCopy(0, 1));
        due("14: dayCopy(2, 2)", 3, x.dayCopy(2, 2));
        due("14: all days", "FRIDAY FRIDAY WEDNESDAY MONDAY", x.days());
        x.dayOn(1, 1);
        due("14: the copy stays", 5, x.dayNumber(0));
        due("15: daySwap(3, 2)", 3, x.daySwap(3, 2));
        due("15: daySwap(1, 1)", 6, x.daySwap(1, 1));
        due("15: all days", "FRIDAY SATURDAY MONDAY WEDNESDAY", x.days());
        due("14, 15: months stay", "JANUARY JANUARY JANUARY JANUARY", x.months());
    }

    private static void promises16To18DaysCompared() {
        Ringdays x = withDay(1, 7);
        x.month(0, 12);
        due("16: dayOrder(0, 1)", -1, x.dayOrder(0, 1));
        due("16: dayOrder(1, 0)", 1, x.dayOrder(1, 0));
        due("16: dayOrder(0, 2)", 0, x.dayOrder(0, 2));
        due("16: dayOrder(1, 1)", 0, x.dayOrder(1, 1));
        due("17: isSameDay(0, 1)", false, x.isSameDay(0, 1));
        due("17: isSameDay(0, 2)", true, x.isSameDay(0, 2));
        due("17: isSameDay(1, 1)", true, x.isSameDay(1, 1));
        for (int number = 1; number <= 7; number++) {
            due("18: isDay(1, " + number + ")", number == 7, x.isDay(1, number));
        }
        for (int number : new int[] {0, 8, -7, LEAST, MOST}) {
            CHECKS.noNumber("18: isDay(1, " + number + ")", x, () -> x.isDay(1, number));
            CHECKS.noCell("18: isDay(-1, " + number + ")", x, () -> x.isDay(-1, number));
        }
    }

    private static void promises19To22Month() {
        for (int cell = 0; cell < 4; cell++) {
            Ringdays x = new Ringdays();
            for (int number = 1; number <= 12; number++) {
                due("19: month", Math.max(number - 1, 1), x.month(cell, number));
                due("20: monthNumber", number, x.monthNumber(cell));
                due("21: monthPlace", number - 1, x.monthPlace(cell));
                due("22: monthName", MONTHS[number - 1], x.monthName(cell));
                due("20: monthNumber of another cell", 1, x.monthNumber((cell + 1) % 4));
            }
        }
        Ringdays x = withMonth(2, 4);
        for (int number : new int[] {0, 13, -1, LEAST, MOST}) {
            CHECKS.noNumber("19: month(2, " + number + ")", x, () -> x.month(2, number));
            CHECKS.noCell("19: month(4, " + number + ")", x, () -> x.month(4, number));
        }
    }

    private static void promises23To26MonthOnAndBack() {
        due("23: monthOn(0, 0)", 1, new Ringdays().monthOn(0, 0));
        due("23: monthOn(0, 1)", 2, new Ringdays().monthOn(0, 1));
        due("23: monthOn(0, 12)", 1, new Ringdays().monthOn(0, 12));
        due("23: monthOn(0, -1)", 12, new Ringdays().monthOn(0, -1));
        due("23: monthOn(1, 1) from 12", 1, withMonth(1, 12).monthOn(1, 1));
        due("23: monthOn(1, most) from 12", 7, withMonth(1, 12).monthOn(1, MOST));
        due("23: monthOn(1, least) from 1", 5, withMonth(1, 1).monthOn(1, LEAST));
        due("24: monthBack(0, 0)", 1, new Ringdays().monthBack(0, 0));
        due("24: monthBack(0, 1)", 12, new Ringdays().monthBack(0, 1));
        due("24: monthBack(0, -1)", 2, new Ringdays().monthBack(0, -1));
        due("24: monthBack(1, most) from 1", 6, withMonth(1, 1).monthBack(1, MOST));
        due("24: monthBack(1, least) from 5", 1, withMonth(1, 5).monthBack(1, LEAST));
        due("25: monthOnFar(0, 0, 12)", 1, new Ringdays().monthOnFar(0, 0, 12));
        due("25: monthOnFar(0, 0, 13)", 2, new Ringdays().monthOnFar(0, 0, 13));
        due("25: monthOnFar(0, -1, -1)", 12, new Ringdays().monthOnFar(0, -1, -1));
        due("25: monthOnFar(0, 0, -1)", 4, new Ringdays().monthOnFar(0, 0, -1));
        due("25: monthOnFar(0, 1, 0)", 5, new Ringdays().monthOnFar(0, 1, 0));
        due("25: monthOnFar(0, most, -1)", 8, new Ringdays().monthOnFar(0, MOST, -1));
        due("25: monthOnFar(3, most, -1) from 12", 7, withMonth(3, 12).monthOnFar(3, MOST, -1));
        due("25: monthOnFar(0, least, 0)", 5, new Ringdays().monthOnFar(0, LEAST, 0));
        due("26: monthBackFar(0, 0, 13)", 12, new Ringdays().monthBackFar(0, 0, 13));
        due("26: monthBackFar(0, -1, -1)", 2, new Ringdays().monthBackFar(0, -1, -1));
        due("26: monthBackFar(0, 0, -1)", 10, new Ringdays().monthBackFar(0, 0, -1));
        due("26: monthBackFar(0, most, -1)", 6, new Ringdays().monthBackFar(0, MOST, -1));
        due("26: monthBackFar(0, least, 0)", 9, new Ringdays().monthBackFar(0, LEAST, 0));
        Ringdays x = new Ringdays();
        x.monthOn(0, 1);
        x.monthBack(1, 1);
        x.monthOnFar(2, 0, 2);
        x.monthBackFar(3, 0, 2);
        due("23 to 26: the cells then", "FEBRUARY DECEMBER MARCH NOVEMBER", x.months());
    }

    private static void promises27To30MonthAt() {
        Ringdays x = withMonth(3, 12);
        due("27: monthAt(3, 0)", 12, x.monthAt(3, 0));
        due("27: monthAt(3, 1)", 1, x.monthAt(3, 1));
        due("27: monthAt(3, -11)", 1, x.monthAt(3, -11));
        due("27: monthAt(3, -12)", 12, x.monthAt(3, -12));
        due("27: monthAt(3, most)", 7, x.monthAt(3, MOST));
        due("27: monthAt(3, least)", 4, x.monthAt(3, LEAST));
        due("28: monthAhead(3, 25)", 11, x.monthAhead(3, 25));
        due("28: monthAhead(3, -2)", 2, x.monthAhead(3, -2));
        due("28: monthAhead(3, most)", 5, x.monthAhead(3, MOST));
        due("28: monthAhead(3, least)", 8, x.monthAhead(3, LEAST));
        due("29: monthAtFar(3, 0, 12, false)", 12, x.monthAtFar(3, 0, 12, false));
        due("29: monthAtFar(3, -1, -1, false)", 11, x.monthAtFar(3, -1, -1, false));
        due("29: monthAtFar(3, -1, -1, true)", 1, x.monthAtFar(3, -1, -1, true));
        due("29: monthAtFar(3, least, 0, false)", 4, x.monthAtFar(3, LEAST, 0, false));
        due("29: monthAtFar(3, least, 0, true)", 8, x.monthAtFar(3, LEAST, 0, true));
        due("29: monthAtFar(3, 0, least, true)", 4, x.monthAtFar(3, 0, LEAST, true));
        due("30: monthTwice(3, 7, -7)", 12, x.monthTwice(3, 7, -7));
        due("30: monthTwice(3, 1, 2)", 3, x.monthTwice(3, 1, 2));
        due("30: monthTwice(3, most, most)", 2, x.monthTwice(3, MOST, MOST));
        due("30: monthTwice(3, least, least)", 8, x.monthTwice(3, LEAST, LEAST));
        due("27 to 30: the month stays", 12, x.monthNumber(3));
        due("27 to 30: no acts", 1, x.acts());
    }

    private static void promises31And32MonthCopyAndSwap() {
        Ringdays x = withMonth(1, 5);
        x.month(2, 3);
        due("31: monthCopy(0, 1)", 5, x.monthCopy(0, 1));
        due("31: monthCopy(2, 2)", 3, x.monthCopy(2, 2));
        due("31: all months", "MAY MAY MARCH JANUARY", x.months());
        x.monthOn(1, 1);
        due("31: the copy stays", 5, x.monthNumber(0));
        due("32: monthSwap(3, 2)", 3, x.monthSwap(3, 2));
        due("32: monthSwap(1, 1)", 6, x.monthSwap(1, 1));
        due("32: all months", "MAY JUNE JANUARY MARCH", x.months());
        due("31, 32: days stay", "MONDAY MONDAY MONDAY MONDAY", x.days());
    }

    private static void promises33To35MonthsCompared() {
        Ringdays x = withMonth(1, 12);
        x.day(0, 7);
        due("33: monthOrder(0, 1)", -1, x.monthOrder(0, 1));
        due("33: monthOrder(1, 0)", 1, x.monthOrder(1, 0));
        due("33: monthOrder(0, 2)", 0, x.monthOrder(0, 2));
        due("33: monthOrder(1, 1)", 0, x.monthOrder(1, 1));
        due("34: isSameMonth(0, 1)", false, x.isSameMonth(0, 1));
        due("34: isSameMonth(0, 2)", true, x.isSameMonth(0, 2));
        due("34: isSameMonth(1, 1)", true, x.isSameMonth(1, 1));
        for (int number = 1; number <= 12; number++) {
            due("35: isMonth(1, " + number + ")", number == 12, x.isMonth(1, number));
        }
        for (int number : new int[] {0, 13, -12, LEAST, MOST}) {
            CHECKS.noNumber("35: isMonth(1, " + number + ")", x, () -> x.isMonth(1, number));
            CHECKS.noCell("35: isMonth(-1, " + number + ")", x, () -> x.isMonth(-1, number));
        }
    }

    private static void promises36To41MonthTables() {
        for (int number = 1; number <= 12; number++) {
            int cell = number % 4;
            Ringdays x = withMonth(cell, number);
            String where = " of month " + number;
            int place = number - 1;
            due("36: length" + where, LENGTHS[place], x.length(cell, false));
            due("36: length, long," + where, LENGTHS[place] + (number == 2 ? 1 : 0), x.length(cell, true));
            due("37: least" + where, LENGTHS[place], x.least(cell));
            due("38: greatest" + where, number == 2 ? 29 : LENGTHS[place], x.greatest(cell));
            due("39: first" + where, FIRSTS[place], x.first(cell, false));
            due("39: first, long," + where, FIRSTS[place] + (number > 2 ? 1 : 0), x.first(cell, true));
            due("40: quarter" + where, QUARTERS[place], x.quarter(cell));
            due("36 to 40: the month stays", number, x.monthNumber(cell));
            due("41: toQuarter" + where, number - QUARTERS[place], x.toQuarter(cell));
            due("41: monthNumber then" + where, QUARTERS[place], x.monthNumber(cell));
        }
    }

    private static void promise41ToQuarterMoves() {
        Ringdays x = withMonth(3, 9);
        due("41: toQuarter(3)", 2, x.toQuarter(3));
        due("41: toQuarter(3) again", 0, x.toQuarter(3));
        due("41: months()", "JANUARY JANUARY JANUARY JULY", x.months());
    }

    private static void promise42Step() {
        Ringdays x = withDay(3, 7);
        int[] due = {302, 303, 604, 105, 406, 607, 208, 509, 710, 311, 512, 101};
        for (int turn = 0; turn < 12; turn++) {
            due("42: step, turn " + turn, due[turn], x.step(0, 3, false));
        }
        due("42: step of February, long", 603, withBoth(2, 2, 1, 5).step(2, 1, true));
        due("42: step of February", 503, withBoth(2, 2, 1, 5).step(2, 1, false));
        due("42: step with one cell", 402, new Ringdays().step(1, 1, true));
        Ringdays y = new Ringdays();
        y.step(2, 1, false);
        due("42: days then", "MONDAY THURSDAY MONDAY MONDAY", y.days());
        due("42: months then", "JANUARY JANUARY FEBRUARY JANUARY", y.months());
        due("42: each call tells its own year", 503, y.step(2, 1, true));
    }

    private static void promise43StepBack() {
        due("43: stepBack from January", 512, new Ringdays().stepBack(0, 3, false));
        due("43: stepBack from March, long", 402, withBoth(1, 3, 2, 5).stepBack(1, 2, true));
        due("43: stepBack from March", 502, withBoth(1, 3, 2, 5).stepBack(1, 2, false));
        due("43: stepBack with one cell", 512, new Ringdays().stepBack(1, 1, true));
        Ringdays x = withBoth(0, 7, 3, 6);
        for (int turn = 0; turn < 12; turn++) {
            int before = 100 * x.dayNumber(3) + x.monthNumber(0);
            x.step(0, 3, turn % 2 == 0);
            due("43: back from where a step led", before, x.stepBack(0, 3, turn % 2 == 0));
            x.step(0, 3, true);
        }
        Ringdays y = withMonth(2, 5);
        y.stepBack(2, 1, false);
        due("43: days then", "MONDAY SATURDAY MONDAY MONDAY", y.days());
        due("43: months then", "JANUARY JANUARY APRIL JANUARY", y.months());
    }

    private static void promise44Begins() {
        for (int begin = 1; begin <= 7; begin++) {
            for (int number = 1; number <= 12; number++) {
                Ringdays x = withBoth(1, number, 2, begin);
                int on = FIRSTS[number - 1] - 1;
                due("44: begins", (begin - 1 + on) % 7 + 1, x.begins(1, 2, false));
                due("44: begins, long", (begin - 1 + on + (number > 2 ? 1 : 0)) % 7 + 1, x.begins(1, 2, true));
                due("44: acts()", 2, x.acts());
            }
        }
        due("44: begins with one cell", 4, withMonth(1, 2).begins(1, 1, false));
    }

    private static void promise45Date() {
        for (int number = 1; number <= 12; number++) {
            for (int turn = 0; turn < 2; turn++) {
                dateOf(withBoth(3, number, 0, number % 7 + 1), turn == 1);
            }
        }
        due("45: date with one cell", 1, withBoth(2, 2, 2, 5).date(2, 2, true, 29));
        Ringdays x = new Ringdays();
        CHECKS.noCell("45: date(4, 0, true, 0)", x, () -> x.date(4, 0, true, 0));
        CHECKS.noCell("45: date(0, -1, true, 32)", x, () -> x.date(0, -1, true, 32));
        CHECKS.noNumber("45: date(0, 1, true, least)", x, () -> x.date(0, 1, true, LEAST));
        CHECKS.noNumber("45: date(0, 1, true, most)", x, () -> x.date(0, 1, true, MOST));
        CHECKS.noNumber("45: date(0, 1, true, -1)", x, () -> x.date(0, 1, true, -1));
    }

    private static void dateOf(Ringdays x, boolean isLong) {
        int begin = x.begins(3, 0, isLong);
        int length = x.length(3, isLong);
        for (int number = 1; number <= length; number++) {
            due("45: date", (begin - 1 + number - 1) % 7 + 1, x.date(3, 0, isLong, number));
        }
        CHECKS.noNumber("45: date of 0", x, () -> x.date(3, 0, isLong, 0));
        CHECKS.noNumber("45: date behind the end of " + x.monthName(3), x, () -> x.date(3, 0, isLong, length + 1));
    }

    private static void promise46AreAlike() {
        // Which months begin alike, as the calendar has it: a letter stands for a day of the week.
        String plain = "ADDGBEGCFADF";
        String longer = "ADEACFADGBEG";
        for (int one = 1; one <= 12; one++) {
            for (int another = 1; another <= 12; another++) {
                Ringdays x = withMonth(0, one);
                x.month(3, another);
                String told = "46: areAlike " + one + ", " + another;
                due(told, plain.charAt(one - 1) == plain.charAt(another - 1), x.areAlike(0, 3, false));
                due(told + ", long", longer.charAt(one - 1) == longer.charAt(another - 1), x.areAlike(0, 3, true));
            }
        }
        due("46: areAlike(2, 2)", true, withMonth(2, 11).areAlike(2, 2, false));
        Ringdays x = withMonth(0, 1);
        x.day(1, 5);
        due("46: areAlike is of months alone", true, x.areAlike(0, 1, true));
    }

    private static void promises47To49Kept() {
        Ringdays x = withBoth(3, 8, 1, 6);
        CHECKS.refused("48: back(0)", IllegalStateException.class, x, () -> x.back(0));
        due("47: keep(0)", 0, x.keep(0));
        due("49: isKept(0)", true, x.isKept(0));
        due("49: isKept(1)", false, x.isKept(1));
        CHECKS.refused("48: back(1)", IllegalStateException.class, x, () -> x.back(1));
        due("48: back(0), nothing changed", 0, x.back(0));
        for (int cell = 0; cell < 4; cell++) {
            x.dayOn(cell, 1);
            x.monthOn(cell, 1);
        }
        due("47: keep(1)", 0, x.keep(1));
        due("48: back(0), all changed", 8, x.back(0));
        due("48: days()", "MONDAY SATURDAY MONDAY MONDAY", x.days());
        due("48: months()", "JANUARY JANUARY JANUARY AUGUST", x.months());
        x.day(2, 3);
        due("48: what was kept stays kept", 1, x.back(0));
        x.month(2, 3);
        due("47: keep(0) again", 1, x.keep(0));
        x.month(2, 4);
        due("48: back(0), in place of what was kept", 1, x.back(0));
        due("48: monthNumber(2)", 3, x.monthNumber(2));
        due("48: back(1)", 8, x.back(1));
        due("48: days() of the other mark", "TUESDAY SUNDAY TUESDAY TUESDAY", x.days());
        due("48: months() of the other mark", "FEBRUARY FEBRUARY FEBRUARY SEPTEMBER", x.months());
        for (int mark : NO_MARKS) {
            CHECKS.noCell("47: keep(" + mark + ")", x, () -> x.keep(mark));
            CHECKS.noCell("48: back(" + mark + ")", x, () -> x.back(mark));
            CHECKS.noCell("49: isKept(" + mark + ")", x, () -> x.isKept(mark));
        }
    }

    private static void promises50And51Names() {
        Ringdays x = new Ringdays();
        due("50: days()", "MONDAY MONDAY MONDAY MONDAY", x.days());
        due("51: months()", "JANUARY JANUARY JANUARY JANUARY", x.months());
        for (int cell = 0; cell < 4; cell++) {
            x.day(cell, 7 - cell);
            x.month(cell, 12 - cell);
        }
        due("50: days()", "SUNDAY SATURDAY FRIDAY THURSDAY", x.days());
        due("51: months()", "DECEMBER NOVEMBER OCTOBER SEPTEMBER", x.months());
    }

    private static void promise52Acts() {
        Ringdays x = new Ringdays();
        x.day(0, 1);
        due("52: day", 1, x.acts());
        x.dayOn(0, 0);
        due("52: dayOn", 2, x.acts());
        x.dayBack(0, 0);
        due("52: dayBack", 3, x.acts());
        x.dayOnFar(0, 0, 0);
        due("52: dayOnFar", 4, x.acts());
        x.dayBackFar(0, 0, 0);
        due("52: dayBackFar", 5, x.acts());
        x.dayCopy(0, 0);
        due("52: dayCopy", 6, x.acts());
        x.daySwap(0, 1);
        due("52: daySwap", 7, x.acts());
        x.month(0, 1);
        due("52: month", 8, x.acts());
        x.monthOn(0, 0);
        due("52: monthOn", 9, x.acts());
        x.monthBack(0, 0);
        due("52: monthBack", 10, x.acts());
        x.monthOnFar(0, 0, 0);
        due("52: monthOnFar", 11, x.acts());
        x.monthBackFar(0, 0, 0);
        due("52: monthBackFar", 12, x.acts());
        x.monthCopy(0, 0);
        due("52: monthCopy", 13, x.acts());
        x.monthSwap(0, 1);
        due("52: monthSwap", 14, x.acts());
        x.toQuarter(0);
        due("52: toQuarter", 15, x.acts());
        x.step(0, 0, false);
        due("52: step", 16, x.acts());
        x.stepBack(0, 0, false);
        due("52: stepBack", 17, x.acts());
        x.keep(0);
        due("52: keep is none", 17, x.acts());
        x.back(0);
        due("52: back", 18, x.acts());
        askAll(x);
        due("52: what only asks is none", 18, x.acts());
    }

    private static void askAll(Ringdays x) {
        x.dayNumber(0);
        x.dayPlace(0);
        x.dayName(0);
        x.dayAt(0, 1);
        x.dayAhead(0, 1);
        x.dayAtFar(0, 0, 1, true);
        x.dayTwice(0, 1, 1);
        x.dayOrder(0, 1);
        x.isSameDay(0, 1);
        x.isDay(0, 1);
        x.monthNumber(0);
        x.monthPlace(0);
        x.monthName(0);
        x.monthAt(0, 1);
        x.monthAhead(0, 1);
        x.monthAtFar(0, 0, 1, true);
        x.monthTwice(0, 1, 1);
        x.monthOrder(0, 1);
        x.isSameMonth(0, 1);
        x.isMonth(0, 1);
        x.length(0, true);
        x.least(0);
        x.greatest(0);
        x.first(0, true);
        x.quarter(0);
        x.begins(0, 0, true);
        x.date(0, 0, true, 1);
        x.areAlike(0, 1, true);
        x.isKept(0);
        x.days();
        x.months();
        x.knock();
        x.isSound();
        x.digest();
    }

    private static void promise52ThrowsNotCounted() {
        Ringdays x = new Ringdays();
        CHECKS.noNumber("52: day(0, 8)", x, () -> x.day(0, 8));
        CHECKS.noCell("52: dayOn(4, 1)", x, () -> x.dayOn(4, 1));
        CHECKS.refused("52: back(1)", IllegalStateException.class, x, () -> x.back(1));
        due("52: what threw is none", 0, x.acts());
    }

    private static void promise53Knock() {
        Ringdays x = new Ringdays();
        for (int often = 1; often <= 500; often++) {
            due("53: knock()", often, x.knock());
        }
        due("53: knock() of another object", 1, new Ringdays().knock());
    }

    private static void promise54IsSound() {
        for (int day = 1; day <= 7; day++) {
            for (int month = 1; month <= 12; month++) {
                Ringdays x = withBoth(day % 4, month, month % 4, day);
                long before = x.digest();
                due("54: isSound()", true, x.isSound());
                due("54: isSound() changes nothing", before, x.digest());
            }
        }
    }

    private static void promise55Digest() {
        // Worked out apart from the class, by the words of the document.
        Ringdays x = new Ringdays();
        due("55: digest() of a new object", newDigest(0, 0), x.digest());
        due("55: digest() again", newDigest(0, 0), x.digest());
        x.knock();
        x.knock();
        due("55: digest() behind two knocks", newDigest(0, 2), x.digest());
        x.dayOn(1, 0);
        due("55: digest() behind an act", newDigest(1, 2), x.digest());
        long before = x.digest();
        x.keep(1);
        due("55: digest() behind keep(1)", before + 31, x.digest());
        x.keep(0);
        due("55: digest() behind keep(0)", before + 31 + 961, x.digest());
    }

    private static long newDigest(int acts, int knocks) {
        long d = (7793L * 31 + acts) * 31 + knocks;
        for (int cell = 0; cell < 4; cell++) {
            d = (d * 31 + 1) * 31 + 1;
            for (char sign : "MONDAYJANUARY".toCharArray()) {
                d = d * 31 + sign;
            }
            d = ((((d * 31 + 31) * 31 + 31) * 31 + 1) * 31 + 1) * 31 + 1;
        }
        for (int pair = 0; pair < 16; pair++) {
            d = d * 31 * 31 * 31 + 1;
        }
        return d * 31 * 31 * 31 + 1;
    }
}
