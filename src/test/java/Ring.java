/** Both rings under the same words, so that a sentence that holds of both is tested of both. */
abstract class Ring {
    static final Ring DAYS = new Days();
    static final Ring MONTHS = new Months();
    static final Ring[] BOTH = {DAYS, MONTHS};

    final String told;
    final int size;

    private Ring(String told, int size) {
        this.told = told;
        this.size = size;
    }

    abstract int set(Ringdays x, int cell, int number);
    abstract int number(Ringdays x, int cell);
    abstract int place(Ringdays x, int cell);
    abstract String name(Ringdays x, int cell);
    abstract int on(Ringdays x, int cell, int many);
    abstract int back(Ringdays x, int cell, int many);
    abstract int onFar(Ringdays x, int cell, int high, int low);
    abstract int backFar(Ringdays x, int cell, int high, int low);
    abstract int at(Ringdays x, int cell, int many);
    abstract int ahead(Ringdays x, int cell, int many);
    abstract int atFar(Ringdays x, int cell, int high, int low, boolean isBack);
    abstract int twice(Ringdays x, int cell, int many, int more);
    abstract int copy(Ringdays x, int cell, int from);
    abstract int swap(Ringdays x, int cell, int other);
    abstract int order(Ringdays x, int cell, int other);
    abstract boolean isSame(Ringdays x, int cell, int other);
    abstract boolean isOne(Ringdays x, int cell, int number);
    abstract String names(Ringdays x);

    /** A new object whose cell has the one with that number. */
    Ringdays with(int cell, int number) {
        Ringdays x = new Ringdays();
        set(x, cell, number);
        return x;
    }

    /** What is due where the words of a sentence tell another number for each ring. */
    int either(int ofDays, int ofMonths) {
        return this == DAYS ? ofDays : ofMonths;
    }

    /** The number so many on, for 0 <= many. */
    int numberOn(int number, int many) {
        return (number - 1 + many) % size + 1;
    }

    /** The number so many back, for 0 <= many <= size. */
    int numberBack(int number, int many) {
        return numberOn(number, size - many);
    }

    private static final class Days extends Ring {
        Days() { super("day", 7); }
        int set(Ringdays x, int cell, int number) { return x.day(cell, number); }
        int number(Ringdays x, int cell) { return x.dayNumber(cell); }
        int place(Ringdays x, int cell) { return x.dayPlace(cell); }
        String name(Ringdays x, int cell) { return x.dayName(cell); }
        int on(Ringdays x, int cell, int many) { return x.dayOn(cell, many); }
        int back(Ringdays x, int cell, int many) { return x.dayBack(cell, many); }
        int onFar(Ringdays x, int cell, int high, int low) { return x.dayOnFar(cell, high, low); }
        int backFar(Ringdays x, int cell, int high, int low) { return x.dayBackFar(cell, high, low); }
        int at(Ringdays x, int cell, int many) { return x.dayAt(cell, many); }
        int ahead(Ringdays x, int cell, int many) { return x.dayAhead(cell, many); }
        int atFar(Ringdays x, int cell, int high, int low, boolean isBack) {
            return x.dayAtFar(cell, high, low, isBack);
        }
        int twice(Ringdays x, int cell, int many, int more) { return x.dayTwice(cell, many, more); }
        int copy(Ringdays x, int cell, int from) { return x.dayCopy(cell, from); }
        int swap(Ringdays x, int cell, int other) { return x.daySwap(cell, other); }
        int order(Ringdays x, int cell, int other) { return x.dayOrder(cell, other); }
        boolean isSame(Ringdays x, int cell, int other) { return x.isSameDay(cell, other); }
        boolean isOne(Ringdays x, int cell, int number) { return x.isDay(cell, number); }
        String names(Ringdays x) { return x.days(); }
    }

    private static final class Months extends Ring {
        Months() { super("month", 12); }
        int set(Ringdays x, int cell, int number) { return x.month(cell, number); }
        int number(Ringdays x, int cell) { return x.monthNumber(cell); }
        int place(Ringdays x, int cell) { return x.monthPlace(cell); }
        String name(Ringdays x, int cell) { return x.monthName(cell); }
        int on(Ringdays x, int cell, int many) { return x.monthOn(cell, many); }
        int back(Ringdays x, int cell, int many) { return x.monthBack(cell, many); }
        int onFar(Ringdays x, int cell, int high, int low) { return x.monthOnFar(cell, high, low); }
        int backFar(Ringdays x, int cell, int high, int low) { return x.monthBackFar(cell, high, low); }
        int at(Ringdays x, int cell, int many) { return x.monthAt(cell, many); }
        int ahead(Ringdays x, int cell, int many) { return x.monthAhead(cell, many); }
        int atFar(Ringdays x, int cell, int high, int low, boolean isBack) {
            return x.monthAtFar(cell, high, low, isBack);
        }
        int twice(Ringdays x, int cell, int many, int more) { return x.monthTwice(cell, many, more); }
        int copy(Ringdays x, int cell, int from) { return x.monthCopy(cell, from); }
        int swap(Ringdays x, int cell, int other) { return x.monthSwap(cell, other); }
        int order(Ringdays x, int cell, int other) { return x.monthOrder(cell, other); }
        boolean isSame(Ringdays x, int cell, int other) { return x.isSameMonth(cell, other); }
        boolean isOne(Ringdays x, int cell, int number) { return x.isMonth(cell, number); }
        String names(Ringdays x) { return x.months(); }
    }
}
