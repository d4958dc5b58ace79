/** Each sentence of the document's "Description" that names a boundary case, a test each. */
public final class EdgeDescriptionTest {
    private static final Checks CHECKS = new Checks();
    private static final int LEAST = Integer.MIN_VALUE;
    private static final int MOST = Integer.MAX_VALUE;
    private static final int[] LENGTHS = {31, 28, 31, 30, 31, 30, 31, 31, 30, 31, 30, 31};

    public static void main(String[] args) {
        CHECKS.run(
                EdgeDescriptionTest::cellsAre0To3,
                EdgeDescriptionTest::eachCellHasItsOwn,
                EdgeDescriptionTest::atFirstTheNumberIs1,
                EdgeDescriptionTest::marksAre0And1,
                EdgeDescriptionTest::atFirstNothingIsKept,
                EdgeDescriptionTest::whatThrowsChangesNothing,
                EdgeDescriptionTest::theFirstNamedIsThrown,
                EdgeDescriptionTest::numbersGoFrom1ToTheLast,
                EdgeDescriptionTest::placeIsTheNumberLess1,
                EdgeDescriptionTest::oneOnFromTheLastIsTheFirst,
                EdgeDescriptionTest::soManyOnIsSoOftenOneOn,
                EdgeDescriptionTest::zeroOnIsItself,
                EdgeDescriptionTest::oneBackIsTheOtherWay,
                EdgeDescriptionTest::onBelow0IsBack,
                EdgeDescriptionTest::backBelow0IsOn,
                EdgeDescriptionTest::theLeastNumberIsTheOtherWay,
                EdgeDescriptionTest::theGreatestNumber,
                EdgeDescriptionTest::lengthOfEach,
                EdgeDescriptionTest::lengthOf2InALongYear,
                EdgeDescriptionTest::firstIsFrom1On,
                EdgeDescriptionTest::firstIsTheLengthsOfTheSmaller,
                EdgeDescriptionTest::quarters,
                EdgeDescriptionTest::lowBelow0CountsMore,
                EdgeDescriptionTest::eachAmountIsOfJustTwo,
                EdgeDescriptionTest::zeroAnd7Are7,
                EdgeDescriptionTest::minus1AndMinus1AreMinus1,
                EdgeDescriptionTest::theLeastAmount,
                EdgeDescriptionTest::theGreatestAmount,
                EdgeDescriptionTest::anAmountBelow0IsTheOtherWay,
                EdgeDescriptionTest::aMonthBeginsFirstLess1On,
                EdgeDescriptionTest::theDayNumberFallsThatLess1On,
                EdgeDescriptionTest::lengthIsAsToldInThatCallAlone,
                EdgeDescriptionTest::theCellsMayBeTheSame);
        CHECKS.end();
    }

    private static void due(String call, Object want, Object got) {
        CHECKS.due(call, want, got);
    }

    // ---- ways to go: each call that goes on, or back, must come to the same

    private static void goesOn(String sentence, Ring ring, int from, int many, int due) {
        String told = sentence + ": " + many + " on from " + ring.told + " " + from;
        int cell = from % 4;
        Ringdays x = ring.with(cell, from);
        due(told + ", at", due, ring.at(x, cell, many));
        due(told + ", twice", due, ring.twice(x, cell, many, 0));
        due(told + ", twice behind 0", due, ring.twice(x, cell, 0, many));
        due(told + ", only asked", from, ring.number(x, cell));
        due(told + ", on", due, ring.on(x, cell, many));
        due(told + ", then", due, ring.number(x, cell));
        goesOnFar(sentence, ring, from, many < 0 ? -1 : 0, many, due);
    }

    private static void goesBack(String sentence, Ring ring, int from, int many, int due) {
        String told = sentence + ": " + many + " back from " + ring.told + " " + from;
        int cell = from % 4;
        Ringdays x = ring.with(cell, from);
        due(told + ", ahead", due, ring.ahead(x, cell, many));
        due(told + ", only asked", from, ring.number(x, cell));
        due(told + ", back", due, ring.back(x, cell, many));
        due(told + ", then", due, ring.number(x, cell));
        goesBackFar(sentence, ring, from, many < 0 ? -1 : 0, many, due);
    }

    private static void goesOnFar(String sentence, Ring ring, int from, int high, int low, int due) {
        String told = sentence + ": " + high + " and " + low + " on from " + ring.told + " " + from;
        int cell = from % 4;
        Ringdays x = ring.with(cell, from);
        due(told + ", atFar", due, ring.atFar(x, cell, high, low, false));
        due(told + ", only asked", from, ring.number(x, cell));
        due(told + ", onFar", due, ring.onFar(x, cell, high, low));
        due(told + ", then", due, ring.number(x, cell));
    }

    private static void goesBackFar(String sentence, Ring ring, int from, int high, int low, int due) {
        String told = sentence + ": " + high + " and " + low + " back from " + ring.told + " " + from;
        int cell = from % 4;
        Ringdays x = ring.with(cell, from);
        due(told + ", atFar back", due, ring.atFar(x, cell, high, low, true));
        due(told + ", only asked", from, ring.number(x, cell));
        due(told + ", backFar", due, ring.backFar(x, cell, high, low));
        due(told + ", then", due, ring.number(x, cell));
    }

    /** An amount both ways from each number; rest is what is left of it when all whole rounds are away. */
    private static void goesBothWays(String sentence, Ring ring, int high, int low, int rest) {
        for (int from = 1; from <= ring.size; from++) {
            goesOnFar(sentence, ring, from, high, low, ring.numberOn(from, rest));
            goesBackFar(sentence, ring, from, high, low, ring.numberBack(from, rest));
        }
    }

    // ---- cells, marks, exceptions

    /** "CELLS are 0 to 3" */
    private static void cellsAre0To3() {
        for (Refusals.Open open : Refusals.allOfCells()) {
            for (int cell = 0; cell <= 3; cell++) {
                due(open.told(cell), "an answer", outcome(open, cell));
            }
            due(open.told(-1), IndexOutOfBoundsException.class, outcome(open, -1));
            due(open.told(4), IndexOutOfBoundsException.class, outcome(open, 4));
        }
    }

    private static Object outcome(Refusals.Open open, int told) {
        try {
            open.call().answer(Samples.made(3), told);
            return "an answer";
        } catch (RuntimeException e) {
            return e.getClass();
        }
    }

    /** "each has a DAY and a MONTH" */
    private static void eachCellHasItsOwn() {
        Ringdays x = new Ringdays();
        for (int cell = 0; cell < 4; cell++) {
            x.day(cell, 4 + cell);
            x.month(cell, 9 + cell);
        }
        due("each has a DAY and a MONTH", "4,5,6,7,9,10,11,12,", Samples.eight(x));
    }

    /** "at first those with the number 1" */
    private static void atFirstTheNumberIs1() {
        due("at first those with the number 1", "1,1,1,1,1,1,1,1,", Samples.eight(new Ringdays()));
    }

    /** "MARKS are 0 and 1" */
    private static void marksAre0And1() {
        for (Refusals.Open open : Refusals.MARK) {
            due(open.told(0), "an answer", outcome(open, 0));
            due(open.told(1), "an answer", outcome(open, 1));
            due(open.told(-1), IndexOutOfBoundsException.class, outcome(open, -1));
            due(open.told(2), IndexOutOfBoundsException.class, outcome(open, 2));
        }
    }

    /** "at first nothing is kept under them" */
    private static void atFirstNothingIsKept() {
        for (int mark = 0; mark < 2; mark++) {
            due("at first isKept(" + mark + ")", false, new Ringdays().isKept(mark));
            due("at first keep(" + mark + ")", 0, new Ringdays().keep(mark));
            int nothing = mark;
            Ringdays x = new Ringdays();
            CHECKS.refused("at first back(" + mark + ")", IllegalStateException.class, x, () -> x.back(nothing));
        }
    }

    /** "A method that throws an exception changes nothing." */
    private static void whatThrowsChangesNothing() {
        for (int which = 0; which < Samples.COUNT; which++) {
            Ringdays x = Samples.made(which);
            int thrown = 0;
            for (Refusals.Open open : Refusals.allOfCells()) {
                thrown += throwsOf(x, open, -1) + throwsOf(x, open, 4);
            }
            for (Refusals.Open open : Refusals.MARK) {
                thrown += throwsOf(x, open, -1) + throwsOf(x, open, 2);
            }
            for (Refusals.Open open : Refusals.DAY_NUMBER) {
                thrown += throwsOf(x, open, 0) + throwsOf(x, open, 8);
            }
            for (Refusals.Open open : Refusals.MONTH_NUMBER) {
                thrown += throwsOf(x, open, 0) + throwsOf(x, open, 13);
            }
            for (Refusals.Open open : Refusals.DATE_NUMBER) {
                thrown += throwsOf(x, open, 0) + throwsOf(x, open, 32);
            }
            due("how many threw, sample " + which, 2 * (45 + 13 + 3 + 2 + 2 + 2), thrown);
            due("all behind what threw, sample " + which, Samples.all(Samples.made(which)), Samples.all(x));
        }
    }

    private static int throwsOf(Ringdays x, Refusals.Open open, int told) {
        try {
            open.call().answer(x, told);
            return 0;
        } catch (RuntimeException e) {
            return 1;
        }
    }

    /** "If several exceptions apply, the one that is named first is thrown." */
    private static void theFirstNamedIsThrown() {
        for (Refusals.Open open : Refusals.CELL_AND_WRONG_NUMBER) {
            for (int cell : Refusals.NO_CELLS) {
                CHECKS.refusedEverywhere(open.told(cell), IndexOutOfBoundsException.class, open.call(), cell);
            }
        }
        for (int mark : Refusals.NO_MARKS) {
            Ringdays x = new Ringdays();
            CHECKS.noCell("48: back told " + mark + ", nothing kept", x, () -> x.back(mark));
        }
    }

    // ---- 1. The ring of days, and 2. The ring of months where it says the same by twelve

    /** "DAYS have the numbers 1 to 7", "MONTHS have the numbers 1 to 12" */
    private static void numbersGoFrom1ToTheLast() {
        for (Ring ring : Ring.BOTH) {
            String told = ring.told + "s have the numbers 1 to " + ring.size;
            for (int number = 1; number <= ring.size; number++) {
                due(told, number, ring.number(ring.with(0, number), 0));
            }
            boolean isDays = ring == Ring.DAYS;
            due(told + ", the first name", isDays ? "MONDAY" : "JANUARY", ring.name(ring.with(0, 1), 0));
            due(told + ", the last name", isDays ? "SUNDAY" : "DECEMBER", ring.name(ring.with(0, ring.size), 0));
            Ringdays x = new Ringdays();
            CHECKS.noNumber(told + ", not 0", x, () -> ring.set(x, 0, 0));
            CHECKS.noNumber(told + ", not one more", x, () -> ring.set(x, 0, ring.size + 1));
        }
    }

    /** "PLACE of a DAY: its number less 1." */
    private static void placeIsTheNumberLess1() {
        for (Ring ring : Ring.BOTH) {
            due("PLACE of the first " + ring.told, 0, ring.place(ring.with(1, 1), 1));
            due("PLACE of the last " + ring.told, ring.size - 1, ring.place(ring.with(1, ring.size), 1));
        }
    }

    /** "One on from a DAY is the DAY with the next number, from the one with 7 that with 1" */
    private static void oneOnFromTheLastIsTheFirst() {
        for (Ring ring : Ring.BOTH) {
            for (int from = 1; from < ring.size; from++) {
                goesOn("the next number", ring, from, 1, from + 1);
            }
            goesOn("from the last the first", ring, ring.size, 1, 1);
        }
    }

    /** "so many on: so often one on" */
    private static void soManyOnIsSoOftenOneOn() {
        for (Ring ring : Ring.BOTH) {
            for (int from = 1; from <= ring.size; from++) {
                int number = from;
                for (int many = 1; many <= 3 * ring.size + 1; many++) {
                    number = number == ring.size ? 1 : number + 1;
                    goesOn("so often one on", ring, from, many, number);
                }
            }
        }
    }

    /** "0 on is itself" */
    private static void zeroOnIsItself() {
        for (Ring ring : Ring.BOTH) {
            for (int from = 1; from <= ring.size; from++) {
                goesOn("0 on is itself", ring, from, 0, from);
                goesBack("0 back is itself", ring, from, 0, from);
            }
        }
    }

    /** "One back is the other way." */
    private static void oneBackIsTheOtherWay() {
        for (Ring ring : Ring.BOTH) {
            goesBack("from the first the last", ring, 1, 1, ring.size);
            for (int from = 1; from <= ring.size; from++) {
                int number = from;
                for (int many = 1; many <= 3 * ring.size + 1; many++) {
                    number = number == 1 ? ring.size : number - 1;
                    goesBack("so often one back", ring, from, many, number);
                }
            }
        }
    }

    /** "So many on with a number below 0: back, without the sign" */
    private static void onBelow0IsBack() {
        for (Ring ring : Ring.BOTH) {
            for (int from = 1; from <= ring.size; from++) {
                for (int many = 1; many <= ring.size; many++) {
                    goesOn("on below 0 is back", ring, from, -many, ring.numberBack(from, many));
                }
                goesOn("on below 0, rounds", ring, from, -10 * ring.size - 1, ring.numberBack(from, 1));
            }
        }
    }

    /** "and so many back with one below 0: on." */
    private static void backBelow0IsOn() {
        for (Ring ring : Ring.BOTH) {
            for (int from = 1; from <= ring.size; from++) {
                for (int many = 1; many <= ring.size; many++) {
                    goesBack("back below 0 is on", ring, from, -many, ring.numberOn(from, many));
                }
                goesBack("back below 0, rounds", ring, from, -10 * ring.size - 1, ring.numberOn(from, 1));
            }
        }
    }

    /** "(Of the least 32-bit number: 2147483648 the other way.)" That is 2 (of twelve: 8) and whole rounds. */
    private static void theLeastNumberIsTheOtherWay() {
        for (Ring ring : Ring.BOTH) {
            int rest = ring.either(2, 8);
            for (int from = 1; from <= ring.size; from++) {
                goesOn("the least number", ring, from, LEAST, ring.numberBack(from, rest));
                goesBack("the least number", ring, from, LEAST, ring.numberOn(from, rest));
            }
        }
    }

    /** The greatest 32-bit number goes on and back as each other one: 1 (of twelve: 7) and whole rounds. */
    private static void theGreatestNumber() {
        for (Ring ring : Ring.BOTH) {
            int rest = ring.either(1, 7);
            for (int from = 1; from <= ring.size; from++) {
                goesOn("the greatest number", ring, from, MOST, ring.numberOn(from, rest));
                goesBack("the greatest number", ring, from, MOST, ring.numberBack(from, rest));
                goesOn("the greatest number's other sign", ring, from, -MOST, ring.numberBack(from, rest));
                goesBack("the greatest number's other sign", ring, from, -MOST, ring.numberOn(from, rest));
            }
        }
    }

    // ---- 2. The ring of months

    /** "LENGTH of a MONTH: 31 of those with the numbers 1, 3, 5, 7, 8, 10, 12; 30 of those with 4, 6, 9, 11" */
    private static void lengthOfEach() {
        for (int number = 1; number <= 12; number++) {
            if (number != 2) {
                due("LENGTH of " + number, LENGTHS[number - 1], Ring.MONTHS.with(0, number).length(0, false));
                due("LENGTH of " + number + ", LONG", LENGTHS[number - 1], Ring.MONTHS.with(0, number).length(0, true));
            }
        }
    }

    /** "of that with 2 it is 28, in a LONG year 29." */
    private static void lengthOf2InALongYear() {
        due("LENGTH of 2", 28, Ring.MONTHS.with(3, 2).length(3, false));
        due("LENGTH of 2, LONG", 29, Ring.MONTHS.with(3, 2).length(3, true));
    }

    /** "FIRST of a MONTH: the number of its first day in the year, from 1 on" */
    private static void firstIsFrom1On() {
        due("FIRST of the month with 1", 1, Ring.MONTHS.with(0, 1).first(0, false));
        due("FIRST of the month with 1, LONG", 1, Ring.MONTHS.with(0, 1).first(0, true));
    }

    /** "1 and the LENGTHS, in such a year, of all MONTHS with smaller numbers." */
    private static void firstIsTheLengthsOfTheSmaller() {
        int sum = 1;
        for (int number = 1; number <= 12; number++) {
            due("FIRST of " + number, sum, Ring.MONTHS.with(1, number).first(1, false));
            due("FIRST of " + number + ", LONG", number > 2 ? sum + 1 : sum, Ring.MONTHS.with(1, number).first(1, true));
            sum += LENGTHS[number - 1];
        }
        due("the year's days, by FIRST and LENGTH of the last month", 365, sum - 1);
    }

    /** "QUARTERS: MONTHS with the numbers 1 to 3, 4 to 6, 7 to 9, 10 to 12. A QUARTER begins with the [smallest]" */
    private static void quarters() {
        int[][] firstAndLast = {{1, 3}, {4, 6}, {7, 9}, {10, 12}};
        for (int[] quarter : firstAndLast) {
            for (int number = quarter[0]; number <= quarter[1]; number++) {
                due("QUARTER of " + number, quarter[0], Ring.MONTHS.with(2, number).quarter(2));
            }
        }
    }

    // ---- 3. Amounts

    /** "a low that is below 0 counts as 4294967296 more than it is" */
    private static void lowBelow0CountsMore() {
        for (Ring ring : Ring.BOTH) {
            goesBothWays("4294967295", ring, 0, -1, 3);
            goesBothWays("2147483648", ring, 0, LEAST, ring.either(2, 8));
            goesBothWays("2147483647", ring, 0, MOST, ring.either(1, 7));
            goesBothWays("4294967296", ring, 1, 0, 4);
            goesBothWays("8589934591", ring, 1, -1, ring.either(0, 7));
            goesBothWays("6442450944", ring, 1, LEAST, ring.either(6, 0));
        }
    }

    /** "So each 64-bit number is the AMOUNT of just two": by the next one the answer is the next one, too. */
    private static void eachAmountIsOfJustTwo() {
        long[] around = {
            0, 0xFFFFFFFFL, 0x100000000L, -0x100000000L, -0xFFFFFFFFL, 0x7FFFFFFFL, 0x80000000L, -0x80000000L,
            -0x80000001L, Long.MAX_VALUE - 3, Long.MIN_VALUE + 2
        };
        for (Ring ring : Ring.BOTH) {
            for (long middle : around) {
                for (long many = middle - 2; many < middle + 3; many++) {
                    int rest = (int) Math.floorMod(many, (long) ring.size);
                    goesBothWays("as " + many, ring, (int) (many >> 32), (int) many, rest);
                }
            }
        }
    }

    /** "0 and 7 are 7" */
    private static void zeroAnd7Are7() {
        for (Ring ring : Ring.BOTH) {
            goesBothWays("0 and 7 are 7", ring, 0, 7, ring.either(0, 7));
            goesBothWays("0 and 12 are 12", ring, 0, 12, ring.either(5, 0));
            goesBothWays("0 and 0 are 0", ring, 0, 0, 0);
        }
    }

    /** "-1 and -1 are -1" */
    private static void minus1AndMinus1AreMinus1() {
        for (Ring ring : Ring.BOTH) {
            goesBothWays("-1 and -1 are -1", ring, -1, -1, ring.size - 1);
        }
    }

    /** "-2147483648 and 0 are -9223372036854775808": 1 (of twelve: 8) the other way, and whole rounds. */
    private static void theLeastAmount() {
        for (Ring ring : Ring.BOTH) {
            int rest = ring.either(1, 8);
            for (int from = 1; from <= ring.size; from++) {
                goesOnFar("the least amount", ring, from, LEAST, 0, ring.numberBack(from, rest));
                goesBackFar("the least amount", ring, from, LEAST, 0, ring.numberOn(from, rest));
            }
        }
    }

    /** "each 64-bit number", the greatest one too: 2147483647 and -1, 0 (of twelve: 7) and whole rounds. */
    private static void theGreatestAmount() {
        for (Ring ring : Ring.BOTH) {
            goesBothWays("the greatest amount", ring, MOST, -1, ring.either(0, 7));
        }
    }

    /** "By an AMOUNT one goes on (or back) as by each other number: so many times by one; below 0 the other way." */
    private static void anAmountBelow0IsTheOtherWay() {
        for (Ring ring : Ring.BOTH) {
            for (int many = 1; many <= 2 * ring.size; many++) {
                int rest = many % ring.size;
                goesOnFar("so many times by one", ring, 1, 0, many, ring.numberOn(1, rest));
                goesBackFar("so many times by one", ring, 1, 0, many, ring.numberBack(1, rest));
                goesOnFar("below 0 the other way", ring, 1, -1, -many, ring.numberBack(1, rest));
                goesBackFar("below 0 the other way", ring, 1, -1, -many, ring.numberOn(1, rest));
            }
            goesOnFar("-4294967296 the other way", ring, 1, -1, 0, ring.numberBack(1, 4));
            goesBackFar("-4294967296 the other way", ring, 1, -1, 0, ring.numberOn(1, 4));
        }
    }

    // ---- 4. Both together

    private static Ringdays yearOf(int month, int yearBegins) {
        Ringdays x = new Ringdays();
        x.month(0, month);
        x.day(3, yearBegins);
        return x;
    }

    /** "If a year begins with a DAY, a MONTH begins with the DAY that is FIRST less 1 on from that" */
    private static void aMonthBeginsFirstLess1On() {
        int[] restsOfFirst = {0, 3, 3, 6, 1, 4, 6, 2, 5, 0, 3, 5};
        int[] restsInLong = {0, 3, 4, 0, 2, 5, 0, 3, 6, 1, 4, 6};
        for (int day = 1; day <= 7; day++) {
            for (int number = 1; number <= 12; number++) {
                String told = "begins, month " + number + " in a year from day " + day;
                Ringdays x = yearOf(number, day);
                due(told, Ring.DAYS.numberOn(day, restsOfFirst[number - 1]), x.begins(0, 3, false));
                due(told + ", LONG", Ring.DAYS.numberOn(day, restsInLong[number - 1]), x.begins(0, 3, true));
            }
        }
    }

    /** "the day number n of the MONTH falls on the DAY n less 1 on from where it begins." */
    private static void theDayNumberFallsThatLess1On() {
        for (int day = 1; day <= 7; day++) {
            for (int number = 1; number <= 12; number++) {
                Ringdays x = yearOf(number, day);
                String told = "date, month " + number + " in a year from day " + day;
                due(told + ", n = 1", x.begins(0, 3, true), x.date(0, 3, true, 1));
                int last = LENGTHS[number - 1];
                due(told + ", the last n", Ring.DAYS.numberOn(x.begins(0, 3, false), last - 1), x.date(0, 3, false, last));
            }
            Ringdays x = yearOf(12, day);
            due("date, the last day of the year", day, x.date(0, 3, false, 31));
            due("date, the last day of the LONG year", Ring.DAYS.numberOn(day, 1), x.date(0, 3, true, 31));
        }
    }

    /** "In step() and stepBack() LENGTH is that in a year that is LONG, or not, as it is told in that call alone." */
    private static void lengthIsAsToldInThatCallAlone() {
        Ringdays x = yearOf(2, 7);
        due("step of 2, LONG", 103, x.step(0, 3, true));
        due("stepBack to 2, not LONG behind LONG", 102, x.stepBack(0, 3, false));
        due("step of 2, not LONG", 103, x.step(0, 3, false));
        due("stepBack to 2, LONG behind not LONG", 702, x.stepBack(0, 3, true));
        x.length(0, true);
        due("step of 2, not LONG behind a LONG length()", 703, x.step(0, 3, false));
    }

    /** "The CELL of the MONTH and that of the DAY may be the same one." */
    private static void theCellsMayBeTheSame() {
        for (int cell = 0; cell < 4; cell++) {
            Ringdays x = Ring.MONTHS.with(cell, 12);
            x.day(cell, 5);
            due("step with one cell", 101, x.step(cell, cell, false));
            due("stepBack with one cell", 512, x.stepBack(cell, cell, false));
            due("begins with one cell", 3, x.begins(cell, cell, false));
            due("date with one cell", 5, x.date(cell, cell, false, 31));
        }
    }
}
