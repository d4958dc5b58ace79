import java.util.ArrayList;
import java.util.List;

/** Each call that can refuse what it is told, by its promise; all else that it is told is right. */
final class Refusals {
    static final int LEAST = Integer.MIN_VALUE;
    static final int MOST = Integer.MAX_VALUE;
    static final int[] NO_CELLS = {-1, 4, -4, 8, 256, 65536, LEAST, LEAST + 1, MOST};
    static final int[] NO_MARKS = {-1, 2, -2, 3, 256, 65536, LEAST, LEAST + 1, MOST};

    interface Call {
        Object answer(Ringdays x, int told);
    }

    /** A call with one number left open: a cell, a mark or a number, as the table says that it stands in. */
    record Open(int promise, String name, Call call) {
        String told(int number) {
            return promise + ": " + name + " told " + number;
        }
    }

    static final Open[] CELL = {
        new Open(2, "day", (x, cell) -> x.day(cell, 1)),
        new Open(3, "dayNumber", (x, cell) -> x.dayNumber(cell)),
        new Open(4, "dayPlace", (x, cell) -> x.dayPlace(cell)),
        new Open(5, "dayName", (x, cell) -> x.dayName(cell)),
        new Open(6, "dayOn", (x, cell) -> x.dayOn(cell, 1)),
        new Open(7, "dayBack", (x, cell) -> x.dayBack(cell, 1)),
        new Open(8, "dayOnFar", (x, cell) -> x.dayOnFar(cell, 0, 1)),
        new Open(9, "dayBackFar", (x, cell) -> x.dayBackFar(cell, 0, 1)),
        new Open(10, "dayAt", (x, cell) -> x.dayAt(cell, 1)),
        new Open(11, "dayAhead", (x, cell) -> x.dayAhead(cell, 1)),
        new Open(12, "dayAtFar", (x, cell) -> x.dayAtFar(cell, 0, 1, false)),
        new Open(13, "dayTwice", (x, cell) -> x.dayTwice(cell, 1, 1)),
        new Open(14, "dayCopy", (x, cell) -> x.dayCopy(cell, 1)),
        new Open(15, "daySwap", (x, cell) -> x.daySwap(cell, 1)),
        new Open(16, "dayOrder", (x, cell) -> x.dayOrder(cell, 1)),
        new Open(17, "isSameDay", (x, cell) -> x.isSameDay(cell, 1)),
        new Open(18, "isDay", (x, cell) -> x.isDay(cell, 1)),
        new Open(19, "month", (x, cell) -> x.month(cell, 1)),
        new Open(20, "monthNumber", (x, cell) -> x.monthNumber(cell)),
        new Open(21, "monthPlace", (x, cell) -> x.monthPlace(cell)),
        new Open(22, "monthName", (x, cell) -> x.monthName(cell)),
        new Open(23, "monthOn", (x, cell) -> x.monthOn(cell, 1)),
        new Open(24, "monthBack", (x, cell) -> x.monthBack(cell, 1)),
        new Open(25, "monthOnFar", (x, cell) -> x.monthOnFar(cell, 0, 1)),
        new Open(26, "monthBackFar", (x, cell) -> x.monthBackFar(cell, 0, 1)),
        new Open(27, "monthAt", (x, cell) -> x.monthAt(cell, 1)),
        new Open(28, "monthAhead", (x, cell) -> x.monthAhead(cell, 1)),
        new Open(29, "monthAtFar", (x, cell) -> x.monthAtFar(cell, 0, 1, false)),
        new Open(30, "monthTwice", (x, cell) -> x.monthTwice(cell, 1, 1)),
        new Open(31, "monthCopy", (x, cell) -> x.monthCopy(cell, 1)),
        new Open(32, "monthSwap", (x, cell) -> x.monthSwap(cell, 1)),
        new Open(33, "monthOrder", (x, cell) -> x.monthOrder(cell, 1)),
        new Open(34, "isSameMonth", (x, cell) -> x.isSameMonth(cell, 1)),
        new Open(35, "isMonth", (x, cell) -> x.isMonth(cell, 1)),
        new Open(36, "length", (x, cell) -> x.length(cell, true)),
        new Open(37, "least", (x, cell) -> x.least(cell)),
        new Open(38, "greatest", (x, cell) -> x.greatest(cell)),
        new Open(39, "first", (x, cell) -> x.first(cell, true)),
        new Open(40, "quarter", (x, cell) -> x.quarter(cell)),
        new Open(41, "toQuarter", (x, cell) -> x.toQuarter(cell)),
        new Open(42, "step", (x, cell) -> x.step(cell, 1, false)),
        new Open(43, "stepBack", (x, cell) -> x.stepBack(cell, 1, false)),
        new Open(44, "begins", (x, cell) -> x.begins(cell, 1, true)),
        new Open(45, "date", (x, cell) -> x.date(cell, 1, true, 1)),
        new Open(46, "areAlike", (x, cell) -> x.areAlike(cell, 1, true)),
    };

    static final Open[] OTHER_CELL = {
        new Open(14, "dayCopy", (x, cell) -> x.dayCopy(1, cell)),
        new Open(15, "daySwap", (x, cell) -> x.daySwap(1, cell)),
        new Open(16, "dayOrder", (x, cell) -> x.dayOrder(1, cell)),
        new Open(17, "isSameDay", (x, cell) -> x.isSameDay(1, cell)),
        new Open(31, "monthCopy", (x, cell) -> x.monthCopy(1, cell)),
        new Open(32, "monthSwap", (x, cell) -> x.monthSwap(1, cell)),
        new Open(33, "monthOrder", (x, cell) -> x.monthOrder(1, cell)),
        new Open(34, "isSameMonth", (x, cell) -> x.isSameMonth(1, cell)),
        new Open(42, "step", (x, cell) -> x.step(1, cell, false)),
        new Open(43, "stepBack", (x, cell) -> x.stepBack(1, cell, false)),
        new Open(44, "begins", (x, cell) -> x.begins(1, cell, true)),
        new Open(45, "date", (x, cell) -> x.date(1, cell, true, 1)),
        new Open(46, "areAlike", (x, cell) -> x.areAlike(1, cell, true)),
    };

    static final Open[] MARK = {
        new Open(47, "keep", (x, mark) -> x.keep(mark)),
        new Open(48, "back", (x, mark) -> x.back(mark)),
        new Open(49, "isKept", (x, mark) -> x.isKept(mark)),
    };

    static final Open[] DAY_NUMBER = {
        new Open(2, "day", (x, number) -> x.day(3, number)),
        new Open(18, "isDay", (x, number) -> x.isDay(3, number)),
    };

    static final Open[] MONTH_NUMBER = {
        new Open(19, "month", (x, number) -> x.month(3, number)),
        new Open(35, "isMonth", (x, number) -> x.isMonth(3, number)),
    };

    static final Open[] DATE_NUMBER = {
        new Open(45, "date", (x, number) -> x.date(3, 2, true, number)),
        new Open(45, "date with one cell", (x, number) -> x.date(0, 0, false, number)),
    };

    /** The same calls, with a number that they must refuse too: the cell that there is not is named first. */
    static final Open[] CELL_AND_WRONG_NUMBER = {
        new Open(2, "day(.., 0)", (x, cell) -> x.day(cell, 0)),
        new Open(2, "day(.., 8)", (x, cell) -> x.day(cell, 8)),
        new Open(18, "isDay(.., 0)", (x, cell) -> x.isDay(cell, 0)),
        new Open(18, "isDay(.., 8)", (x, cell) -> x.isDay(cell, 8)),
        new Open(19, "month(.., 0)", (x, cell) -> x.month(cell, 0)),
        new Open(19, "month(.., 13)", (x, cell) -> x.month(cell, 13)),
        new Open(35, "isMonth(.., 0)", (x, cell) -> x.isMonth(cell, 0)),
        new Open(35, "isMonth(.., 13)", (x, cell) -> x.isMonth(cell, 13)),
        new Open(45, "date(.., 1, true, 0)", (x, cell) -> x.date(cell, 1, true, 0)),
        new Open(45, "date(.., 1, true, 32)", (x, cell) -> x.date(cell, 1, true, 32)),
        new Open(45, "date(1, .., true, 0)", (x, cell) -> x.date(1, cell, true, 0)),
        new Open(45, "date(1, .., true, 32)", (x, cell) -> x.date(1, cell, true, 32)),
        new Open(45, "date(.., .., true, 0)", (x, cell) -> x.date(cell, cell, true, 0)),
    };

    private Refusals() {
    }

    /** Every number below the least or above the greatest one that a fault is likely to let through. */
    static int[] outside(int greatest) {
        return new int[] {0, greatest + 1, -1, -greatest, 256 + 1, 65536 + 1, LEAST, LEAST + 1, MOST};
    }

    /** All tables of calls that refuse a cell. */
    static List<Open> allOfCells() {
        List<Open> all = new ArrayList<>(List.of(CELL));
        all.addAll(List.of(OTHER_CELL));
        return all;
    }
}
