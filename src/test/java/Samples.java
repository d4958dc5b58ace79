/** Objects with something behind them, made anew each time, and all that can be told of one. */
final class Samples {
    static final int COUNT = 4;

    private Samples() {
    }

    /** 0: a new object; 1: all eight are other ones, nothing kept; 2: and one mark kept; 3: and both. */
    static Ringdays made(int which) {
        Ringdays x = new Ringdays();
        if (which > 0) {
            x.knock();
            for (int cell = 0; cell < 4; cell++) {
                x.day(cell, 7 - cell);
                x.month(cell, 2 + 3 * cell);
            }
        }
        if (which > 1) {
            x.keep(1);
            goOn(x);
        }
        if (which > 2) {
            x.keep(0);
            goOn(x);
        }
        return x;
    }

    private static void goOn(Ringdays x) {
        for (int cell = 0; cell < 4; cell++) {
            x.dayOn(cell, 1 + cell);
            x.monthBack(cell, 1 + cell);
        }
    }

    /** All of an object, and of what it keeps; it changes the object. */
    static String all(Ringdays x) {
        StringBuilder told = new StringBuilder();
        told.append(x.digest()).append(' ').append(eight(x)).append(" acts ").append(x.acts());
        for (int mark = 0; mark < 2; mark++) {
            told.append(" kept ").append(x.isKept(mark));
            if (x.isKept(mark)) {
                told.append(' ').append(x.back(mark)).append(' ').append(eight(x));
            }
        }
        return told.append(" knocks ").append(x.knock()).toString();
    }

    /** The numbers of all days, then of all months. */
    static String eight(Ringdays x) {
        StringBuilder told = new StringBuilder();
        for (Ring ring : Ring.BOTH) {
            for (int cell = 0; cell < 4; cell++) {
                told.append(ring.number(x, cell)).append(',');
            }
        }
        return told.toString();
    }
}
