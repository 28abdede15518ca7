/** The boundary cases of ENTRIES, MONTHS and promises 14 to 21: first and last days, rows, accounts, months, entries. */
public final class BookEdgesTest {
    private static final int LOW = Integer.MIN_VALUE;
    private static final int HIGH = Integer.MAX_VALUE;
    private static final long MOST = 1000000000000L;
    private static final Due due = new Due();

    public static void main(String[] args) {
        openTakesTheDaysOfTheBook();
        openTakesOneAtATime();
        openStartsWithoutRows();
        monthsHaveThirtyDays();
        closedMonthsTakeNoEntry();
        rowTakesTwentyAccounts();
        rowTakesAmountsOnBothSides();
        rowsAreEightAtMost();
        rowWantsAnOpenEntry();
        enterWantsRows();
        enterWantsRowsThatAreNoneTogether();
        enterSumsBeyondAnInt();
        enterTellsNumbersFromOneOn();
        sixtyEntriesAreAll();
        openEntryBesideSixtyStaysOpen();
        dropTellsHowManyRows();
        droppedEntriesTakeNoNumber();
        closeMonthTellsHowManyWereNot();
        closeMonthLeavesAnOpenEntrysMonth();
        correctWantsAnEntryThatIs();
        correctWantsAClosedMonth();
        correctWantsADayThatIsOpen();
        correctTakesBackOnce();
        correctHasTheRowsInOrder();
        correctFillsTheBook();
        correctLeavesAnOpenEntry();
        balanceKnowsAccountsAndMonths();
        balanceCountsFromTheMonthOn();
        balanceCountsWhatIsInTheBook();
        balancesAddUpBeyondAnInt();
        entryAnswersOfItsHead();
        entryAnswersOfItsRows();
        due.end();
    }

    private static int entered(CrewShares x, int day, long amount) {
        x.open(day);
        x.row(0, amount);
        x.row(19, -amount);
        return x.enter();
    }

    private static void openTakesTheDaysOfTheBook() {
        for (int day : new int[] {LOW, -3600, -30, -29, -1, 3600, 3601, 3629, HIGH}) {
            CrewShares x = new CrewShares();
            due.no("open(" + day + ")", x.open(day));
            due.is("none is open behind open(" + day + "): drop()", x.drop(), -1);
        }
        for (int day : new int[] {0, 1, 29, 30, 1799, 3570, 3598, 3599}) {
            CrewShares x = new CrewShares();
            due.is("an entry on day " + day, entered(x, day, 1), 1);
            due.is("entry(1, -1, 0)", x.entry(1, -1, 0), day);
        }
    }

    private static void openTakesOneAtATime() {
        CrewShares x = new CrewShares();
        due.yes("open(7)", x.open(7));
        due.no("open(7), one is", x.open(7));
        due.no("open(8), one is", x.open(8));
        x.row(0, 1);
        due.no("open(8), one is with a row", x.open(8));
        x.row(0, -1);
        due.no("open(8), one is that could be entered", x.open(8));
        due.is("enter()", x.enter(), 1);
        due.is("the day stays: entry(1, -1, 0)", x.entry(1, -1, 0), 7);
        due.is("the rows stay: entry(1, -1, 1)", x.entry(1, -1, 1), 2);
        due.yes("open(8) behind enter()", x.open(8));
        due.is("drop()", x.drop(), 0);
        due.yes("open(9) behind drop()", x.open(9));
    }

    private static void openStartsWithoutRows() {
        CrewShares x = new CrewShares();
        x.open(1);
        x.row(1, 5);
        x.row(2, 6);
        x.drop();
        x.open(2);
        due.is("enter() without rows, behind a dropped one with rows", x.enter(), 0);
        due.is("drop()", x.drop(), 0);
        entered(x, 3, 5);
        x.open(4);
        due.is("enter() without rows, behind one in the book", x.enter(), 0);
        due.is("row(3, 1)", x.row(3, 1), 1);
        due.is("the one in the book stays: entry(1, 0, 0)", x.entry(1, 0, 0), 0);
        due.is("the one in the book stays: entry(1, 0, 1)", x.entry(1, 0, 1), 5);
    }

    private static void monthsHaveThirtyDays() {
        CrewShares x = new CrewShares();
        for (int month = 0; month < 119; month++) {
            due.is("closeMonth(" + month + ")", x.closeMonth(month), 1);
            due.no("open on its last day", x.open(30 * month + 29));
            due.yes("open on the next month's first day", x.open(30 * month + 30));
            due.is("drop()", x.drop(), 0);
        }
        due.is("closeMonth(119)", x.closeMonth(119), 1);
        due.no("open(3599)", x.open(3599));
        for (int month = 0; month < 120; month++) {
            CrewShares y = new CrewShares();
            due.yes("open on the first day of month " + month, y.open(30 * month));
            due.is("closeMonth of it", y.closeMonth(month), -1);
            due.is("closeMonth of the one before", y.closeMonth(month - 1), month == 0 ? -1 : month);
            y.drop();
            due.yes("open on the last day of month " + month, y.open(30 * month + 29));
            due.is("closeMonth of it", y.closeMonth(month), -1);
            due.is("closeMonth of the one before", y.closeMonth(month - 1), month == 0 ? -1 : 0);
        }
    }

    private static void closedMonthsTakeNoEntry() {
        CrewShares x = new CrewShares();
        x.closeMonth(4);
        for (int day : new int[] {0, 1, 29, 30, 119, 120, 148, 149}) {
            due.no("open(" + day + "), months up to 4 closed", x.open(day));
        }
        due.yes("open(150)", x.open(150));
        x.drop();
        due.yes("open(3599)", x.open(3599));
        x.drop();
        x.closeMonth(118);
        due.no("open(3569)", x.open(3569));
        due.yes("open(3570)", x.open(3570));
        x.drop();
        x.closeMonth(119);
        for (int day : new int[] {0, 3569, 3570, 3599}) {
            due.no("open(" + day + "), all months closed", x.open(day));
        }
    }

    private static void rowTakesTwentyAccounts() {
        for (int account = 0; account < 20; account++) {
            CrewShares x = new CrewShares();
            x.open(0);
            due.is("row(" + account + ", 4)", x.row(account, 4), 1);
            for (int none : new int[] {LOW, -1, 20, 21, 256, HIGH}) {
                due.is("row(" + none + ", 1)", x.row(none, 1), -1);
            }
            due.is("row(" + (account + 1) % 20 + ", -4)", x.row((account + 1) % 20, -4), 2);
            due.is("enter()", x.enter(), 1);
            due.is("entry(1, 0, 0)", x.entry(1, 0, 0), account);
            due.is("entry(1, 1, 0)", x.entry(1, 1, 0), (account + 1) % 20);
            due.is("balance of it", x.balance(account, 0), 4);
            due.is("balance of the other", x.balance((account + 1) % 20, 0), -4);
        }
    }

    private static void rowTakesAmountsOnBothSides() {
        for (long amount : new long[] {1, 2, MOST - 1, MOST}) {
            CrewShares x = new CrewShares();
            x.open(0);
            due.is("row(0, " + amount + ")", x.row(0, amount), 1);
            due.is("row(0, " + -amount + ")", x.row(0, -amount), 2);
            for (long none : new long[] {0, MOST + 1, -MOST - 1, 2 * MOST, -2 * MOST, Long.MIN_VALUE, Long.MIN_VALUE + 1,
                Long.MAX_VALUE}) {
                due.is("row(0, " + none + ")", x.row(0, none), -1);
            }
            due.is("enter()", x.enter(), 1);
            due.is("entry(1, -1, 1)", x.entry(1, -1, 1), 2);
            due.is("entry(1, 0, 1)", x.entry(1, 0, 1), amount);
            due.is("entry(1, 1, 1)", x.entry(1, 1, 1), -amount);
        }
        CrewShares y = new CrewShares();
        y.open(0);
        due.is("row(0, 4294967296), of which an int keeps 0", y.row(0, 1L << 32), 1);
        due.is("row(0, 1)", y.row(0, 1), 2);
        due.is("row(0, -4294967297)", y.row(0, -1 - (1L << 32)), 3);
        due.is("enter()", y.enter(), 1);
    }

    private static void rowsAreEightAtMost() {
        CrewShares x = new CrewShares();
        x.open(0);
        for (int n = 1; n <= 8; n++) {
            due.is("row, the " + n + "th", x.row(n, n < 8 ? n : -28), n);
        }
        due.is("row(0, 1), the 9th", x.row(0, 1), -1);
        due.is("row(19, -1), the 9th", x.row(19, -1), -1);
        due.is("enter() with eight", x.enter(), 1);
        due.is("entry(1, -1, 1)", x.entry(1, -1, 1), 8);
        for (int r = 0; r < 8; r++) {
            due.is("entry(1, " + r + ", 0)", x.entry(1, r, 0), r + 1);
            due.is("entry(1, " + r + ", 1)", x.entry(1, r, 1), r < 7 ? r + 1 : -28);
        }
        due.is("entry(1, 8, 0)", x.entry(1, 8, 0), Due.NO_ANSWER);
        x.open(0);
        due.is("row(0, 1) of the next entry", x.row(0, 1), 1);
        x.drop();
        x.open(1);
        for (int n = 1; n <= 8; n++) {
            due.is("row behind a dropped one, the " + n + "th", x.row(0, 1), n);
        }
        due.is("row(0, 1), the 9th", x.row(0, 1), -1);
        due.is("drop()", x.drop(), 8);
    }

    private static void rowWantsAnOpenEntry() {
        CrewShares x = new CrewShares();
        due.is("row(0, 1) of a new object", x.row(0, 1), -1);
        x.open(0);
        x.drop();
        due.is("row(0, 1) behind drop()", x.row(0, 1), -1);
        entered(x, 0, 1);
        due.is("row(0, 1) behind enter()", x.row(0, 1), -1);
        due.is("entry(1, -1, 1)", x.entry(1, -1, 1), 2);
        x.open(3600);
        due.is("row(0, 1) behind a refused open", x.row(0, 1), -1);
    }

    private static void enterWantsRows() {
        CrewShares x = new CrewShares();
        due.is("enter() of a new object", x.enter(), -1);
        x.open(0);
        due.is("enter() without rows", x.enter(), 0);
        due.is("enter() without rows", x.enter(), 0);
        due.no("it stays open", x.open(1));
        x.row(0, 1);
        x.row(0, -1);
        due.is("enter() with two", x.enter(), 1);
        due.is("enter() again", x.enter(), -1);
        x.open(0);
        x.drop();
        due.is("enter() behind drop()", x.enter(), -1);
    }

    private static void enterWantsRowsThatAreNoneTogether() {
        for (long off = -2; off <= 2; off++) {
            CrewShares x = new CrewShares();
            x.open(0);
            x.row(1, 50);
            due.is("enter() with one row", x.enter(), 0);
            x.row(2, -30);
            due.is("enter() with 50 and -30", x.enter(), 0);
            x.row(3, -20 + off);
            due.is("enter() with 50, -30 and -20 and " + off, x.enter(), off == 0 ? 1 : 0);
            due.is("balance(1, 119)", x.balance(1, 119), off == 0 ? 50 : 0);
            if (off != 0) {
                due.is("row that makes it 0", x.row(4, -off), 4);
                due.is("enter()", x.enter(), 1);
            }
            due.is("entry(1, -1, 1)", x.entry(1, -1, 1), off == 0 ? 3 : 4);
        }
    }

    private static void enterSumsBeyondAnInt() {
        CrewShares x = new CrewShares();
        x.open(0);
        for (int i = 0; i < 4; i++) {
            x.row(1, 1L << 30);
        }
        due.is("enter() with 2^32 together", x.enter(), 0);
        x.drop();
        x.open(0);
        for (int i = 0; i < 4; i++) {
            x.row(1, MOST);
            due.is("enter(), not 0", x.enter(), 0);
        }
        for (int i = 0; i < 4; i++) {
            x.row(2, -MOST);
            due.is("enter() with 4 and " + (i + 1), x.enter(), i < 3 ? 0 : 1);
        }
        due.is("balance(1, 0)", x.balance(1, 0), 4 * MOST);
    }

    private static void enterTellsNumbersFromOneOn() {
        CrewShares x = new CrewShares();
        for (int n = 1; n <= 60; n++) {
            due.is("entry(" + n + ", -1, 0) before", x.entry(n, -1, 0), Due.NO_ANSWER);
            due.is("enter()", entered(x, 60 - n, n), n);
            due.is("entry(" + n + ", -1, 0)", x.entry(n, -1, 0), 60 - n);
            due.is("entry(" + n + ", 0, 1)", x.entry(n, 0, 1), n);
        }
        due.is("entry(0, -1, 0)", x.entry(0, -1, 0), Due.NO_ANSWER);
        due.is("entry(61, -1, 0)", x.entry(61, -1, 0), Due.NO_ANSWER);
    }

    private static CrewShares with(int entries) {
        CrewShares x = new CrewShares();
        for (int n = 1; n <= entries; n++) {
            entered(x, 5, n);
        }
        return x;
    }

    private static void sixtyEntriesAreAll() {
        CrewShares x = with(59);
        due.yes("open(5) behind 59", x.open(5));
        x.drop();
        due.is("the 60th", entered(x, 6, 1), 60);
        for (int day : new int[] {0, 5, 3599}) {
            due.no("open(" + day + ") behind 60", x.open(day));
        }
        due.is("row(0, 1)", x.row(0, 1), -1);
        due.is("enter()", x.enter(), -1);
        due.is("drop()", x.drop(), -1);
        due.is("entry(60, -1, 0)", x.entry(60, -1, 0), 6);
        due.is("closeMonth(0) of a full book", x.closeMonth(0), 1);
        due.is("correct(60, 30) of a full book", x.correct(60, 30), -1);
        due.is("entry(60, -1, 3)", x.entry(60, -1, 3), 0);
    }

    private static void openEntryBesideSixtyStaysOpen() {
        CrewShares x = with(59);
        x.closeMonth(0);
        x.open(33);
        x.row(3, 8);
        due.is("correct(59, 30), the 60th", x.correct(59, 30), 60);
        due.is("enter(), not 0 together and 60 entries", x.enter(), 0);
        due.is("row(3, -8)", x.row(3, -8), 2);
        due.is("enter(), 60 entries", x.enter(), 0);
        due.is("enter(), 60 entries", x.enter(), 0);
        due.no("open(34), it stays open", x.open(34));
        due.is("balance(3, 119), it is not in the book", x.balance(3, 119), 0);
        due.is("entry(61, -1, 0)", x.entry(61, -1, 0), Due.NO_ANSWER);
        due.is("closeMonth(1), it is there", x.closeMonth(1), -1);
        due.is("drop()", x.drop(), 2);
        due.is("closeMonth(1)", x.closeMonth(1), 1);
    }

    private static void dropTellsHowManyRows() {
        CrewShares x = new CrewShares();
        due.is("drop() of a new object", x.drop(), -1);
        for (int rows = 0; rows <= 8; rows++) {
            x.open(rows);
            for (int r = 0; r < rows; r++) {
                x.row(r, 1);
            }
            due.is("drop() with " + rows + " rows", x.drop(), rows);
            due.is("drop() again", x.drop(), -1);
        }
        entered(x, 0, 1);
        due.is("drop() behind enter()", x.drop(), -1);
        due.is("the one in the book stays", x.entry(1, -1, 1), 2);
    }

    private static void droppedEntriesTakeNoNumber() {
        CrewShares x = new CrewShares();
        for (int n = 1; n <= 60; n++) {
            x.open(n);
            x.drop();
        }
        due.is("the first one", entered(x, 0, 1), 1);
        x.open(2);
        x.row(0, 4);
        x.row(1, -4);
        x.drop();
        due.is("balance(1, 119)", x.balance(1, 119), 0);
        due.is("the second one", entered(x, 0, 1), 2);
    }

    private static void closeMonthTellsHowManyWereNot() {
        for (int month : new int[] {LOW, -120, -1, 120, 121, HIGH}) {
            CrewShares x = new CrewShares();
            due.is("closeMonth(" + month + ")", x.closeMonth(month), -1);
            due.is("nothing is closed: closeMonth(119)", x.closeMonth(119), 120);
        }
        for (int month = 0; month < 120; month++) {
            CrewShares x = new CrewShares();
            due.is("closeMonth(" + month + ")", x.closeMonth(month), month + 1);
            due.is("closeMonth(" + month + ") again", x.closeMonth(month), 0);
            due.is("closeMonth(0) behind it", x.closeMonth(0), 0);
            due.is("closeMonth(119) behind it", x.closeMonth(119), 119 - month);
            due.is("closeMonth(119) again", x.closeMonth(119), 0);
        }
        CrewShares y = new CrewShares();
        y.closeMonth(10);
        due.is("closeMonth(3)", y.closeMonth(3), 0);
        due.no("months stay closed: open(329)", y.open(329));
    }

    private static void closeMonthLeavesAnOpenEntrysMonth() {
        CrewShares x = new CrewShares();
        x.open(150);
        for (int month = 5; month < 120; month++) {
            due.is("closeMonth(" + month + ") with one open in month 5", x.closeMonth(month), -1);
        }
        due.is("closeMonth(3)", x.closeMonth(3), 4);
        due.is("closeMonth(4)", x.closeMonth(4), 1);
        due.is("closeMonth(4) again", x.closeMonth(4), 0);
        due.is("closeMonth(5)", x.closeMonth(5), -1);
        x.row(0, 1);
        x.row(0, -1);
        due.is("enter()", x.enter(), 1);
        due.is("closeMonth(5) behind enter()", x.closeMonth(5), 1);
        x.open(209);
        due.is("closeMonth(6), its last day", x.closeMonth(6), -1);
        x.drop();
        due.is("closeMonth(6) behind drop()", x.closeMonth(6), 1);
        CrewShares y = new CrewShares();
        y.open(3599);
        due.is("closeMonth(119)", y.closeMonth(119), -1);
        due.is("closeMonth(118)", y.closeMonth(118), 119);
        CrewShares z = new CrewShares();
        z.open(0);
        due.is("closeMonth(0)", z.closeMonth(0), -1);
        due.is("closeMonth(119)", z.closeMonth(119), -1);
    }

    private static void correctWantsAnEntryThatIs() {
        CrewShares x = new CrewShares();
        x.closeMonth(0);
        for (int number : new int[] {LOW, -1, 0, 1, 60, 61, HIGH}) {
            due.is("correct(" + number + ", 30) of an empty book", x.correct(number, 30), -1);
        }
        CrewShares y = with(3);
        y.closeMonth(0);
        for (int number : new int[] {LOW, -1, 0, 4, 60, 61, HIGH}) {
            due.is("correct(" + number + ", 30)", y.correct(number, 30), -1);
        }
        due.is("entry(4, -1, 0)", y.entry(4, -1, 0), Due.NO_ANSWER);
        due.is("correct(1, 30), the first", y.correct(1, 30), 4);
        due.is("correct(3, 30), the last", y.correct(3, 30), 5);
    }

    private static void correctWantsAClosedMonth() {
        for (int month = 0; month < 119; month++) {
            CrewShares x = new CrewShares();
            entered(x, 30 * month + 29, 1);
            entered(x, 30 * month + 30, 1);
            due.is("correct(1, 3599), no month closed", x.correct(1, 3599), -1);
            if (month > 0) {
                x.closeMonth(month - 1);
                due.is("correct(1, 3599), the month before closed", x.correct(1, 3599), -1);
            }
            x.closeMonth(month);
            due.is("correct(2, 3599), its month is the next", x.correct(2, 3599), -1);
            due.is("correct(1, 3599), its month closed", x.correct(1, 3599), 3);
        }
    }

    private static void correctWantsADayThatIsOpen() {
        CrewShares x = with(9);
        x.closeMonth(3);
        for (int day : new int[] {LOW, -30, -1, 0, 5, 29, 30, 90, 118, 119, 3600, 3601, HIGH}) {
            due.is("correct(1, " + day + ")", x.correct(1, day), -1);
        }
        due.is("refused: entry(1, -1, 3)", x.entry(1, -1, 3), 0);
        due.is("refused: entry(10, -1, 0)", x.entry(10, -1, 0), Due.NO_ANSWER);
        due.is("correct(1, 120)", x.correct(1, 120), 10);
        due.is("entry(10, -1, 0)", x.entry(10, -1, 0), 120);
        due.is("correct(2, 3599)", x.correct(2, 3599), 11);
        due.is("entry(11, -1, 0)", x.entry(11, -1, 0), 3599);
        x.closeMonth(119);
        due.is("correct(3, 3599), all closed", x.correct(3, 3599), -1);
    }

    private static void correctTakesBackOnce() {
        CrewShares x = with(2);
        x.closeMonth(0);
        due.is("correct(1, 30)", x.correct(1, 30), 3);
        due.is("correct(1, 30) again", x.correct(1, 30), -1);
        due.is("correct(3, 30), its month not closed", x.correct(3, 30), -1);
        x.closeMonth(1);
        due.is("correct(3, 60), it takes one back", x.correct(3, 60), -1);
        due.is("correct(1, 60), it was taken back", x.correct(1, 60), -1);
        due.is("correct(2, 60)", x.correct(2, 60), 4);
        long[] takes = {0, 0, 1, 2};
        long[] taken = {3, 4, 0, 0};
        for (int n = 1; n <= 4; n++) {
            due.is("entry(" + n + ", -1, 2)", x.entry(n, -1, 2), takes[n - 1]);
            due.is("entry(" + n + ", -1, 3)", x.entry(n, -1, 3), taken[n - 1]);
        }
        due.is("balance(0, 0)", x.balance(0, 0), 3);
        due.is("balance(0, 1)", x.balance(0, 1), 2);
        due.is("balance(0, 2)", x.balance(0, 2), 0);
    }

    private static void correctHasTheRowsInOrder() {
        for (int rows = 2; rows <= 8; rows++) {
            CrewShares x = new CrewShares();
            x.open(0);
            long sum = 0;
            for (int r = 0; r < rows - 1; r++) {
                long amount = r % 2 == 0 ? MOST - r : r - MOST;
                x.row(19 - r, amount);
                sum += amount;
            }
            x.row(19, -sum);
            due.is("enter()", x.enter(), 1);
            x.closeMonth(0);
            due.is("correct(1, 31)", x.correct(1, 31), 2);
            due.is("as many rows", x.entry(2, -1, 1), rows);
            for (int r = 0; r < rows; r++) {
                long amount = r == rows - 1 ? -sum : r % 2 == 0 ? MOST - r : r - MOST;
                due.is("account of row " + r, x.entry(2, r, 0), r == rows - 1 ? 19 : 19 - r);
                due.is("amount of row " + r, x.entry(2, r, 1), -amount);
                due.is("amount of row " + r + " that was taken back", x.entry(1, r, 1), amount);
            }
            due.is("no row behind", x.entry(2, rows, 0), Due.NO_ANSWER);
        }
    }

    private static void correctFillsTheBook() {
        CrewShares x = with(31);
        x.closeMonth(0);
        for (int n = 1; n <= 29; n++) {
            due.is("correct(" + n + ", 30)", x.correct(n, 30), 31 + n);
        }
        due.is("correct(30, 30), the 61st", x.correct(30, 30), -1);
        due.is("entry(30, -1, 3)", x.entry(30, -1, 3), 0);
        due.is("entry(60, -1, 2)", x.entry(60, -1, 2), 29);
        due.is("entry(61, -1, 2)", x.entry(61, -1, 2), Due.NO_ANSWER);
        due.no("open(30), the 61st", x.open(30));
        due.is("balance(0, 119)", x.balance(0, 119), 30 + 31);
    }

    private static void correctLeavesAnOpenEntry() {
        for (int rows = 0; rows <= 8; rows++) {
            CrewShares x = with(1);
            x.closeMonth(0);
            x.open(50);
            for (int r = 0; r < rows; r++) {
                x.row(7, r % 2 == 0 ? 9 : -9);
            }
            due.is("correct(1, 40)", x.correct(1, 40), 2);
            due.no("open(51), one is", x.open(51));
            due.is("closeMonth(1), it is there", x.closeMonth(1), -1);
            boolean even = rows > 0 && rows % 2 == 0;
            due.is("enter()", x.enter(), even ? 3 : 0);
            due.is("entry(3, -1, 0)", x.entry(3, -1, 0), even ? 50 : Due.NO_ANSWER);
            due.is("entry(2, -1, 0)", x.entry(2, -1, 0), 40);
            due.is("entry(2, -1, 1)", x.entry(2, -1, 1), 2);
            due.is("drop()", x.drop(), even ? -1 : rows);
        }
    }

    private static void balanceKnowsAccountsAndMonths() {
        CrewShares x = with(1);
        for (int account = 0; account < 20; account++) {
            long want = account == 0 ? 1 : account == 19 ? -1 : 0;
            due.is("balance(" + account + ", 0)", x.balance(account, 0), want);
            due.is("balance(" + account + ", 119)", x.balance(account, 119), want);
            for (int month : new int[] {LOW, -1, 120, 121, HIGH}) {
                due.is("balance(" + account + ", " + month + ")", x.balance(account, month), Due.NO_ANSWER);
            }
        }
        for (int account : new int[] {LOW, -1, 20, 21, HIGH}) {
            for (int month : new int[] {-1, 0, 119, 120}) {
                due.is("balance(" + account + ", " + month + ")", x.balance(account, month), Due.NO_ANSWER);
            }
        }
    }

    private static void balanceCountsFromTheMonthOn() {
        for (int month = 0; month < 120; month++) {
            CrewShares x = new CrewShares();
            entered(x, 30 * month, 1);
            entered(x, 30 * month + 29, 10);
            if (month > 0) {
                due.is("balance in the month before", x.balance(0, month - 1), 0);
            }
            due.is("balance in month " + month, x.balance(0, month), 11);
            due.is("balance of the other side", x.balance(19, month), -11);
            due.is("balance in month 119", x.balance(0, 119), 11);
            due.is("balance in month 0", x.balance(0, 0), month == 0 ? 11 : 0);
        }
    }

    private static void balanceCountsWhatIsInTheBook() {
        CrewShares x = new CrewShares();
        x.open(0);
        x.row(4, 5);
        due.is("balance(4, 119), a row of an open entry", x.balance(4, 119), 0);
        x.row(4, 6);
        x.row(5, -11);
        due.is("balance(4, 119), an open entry that is 0 together", x.balance(4, 119), 0);
        x.enter();
        due.is("balance(4, 119), two rows in the book", x.balance(4, 119), 11);
        due.is("balance(5, 119)", x.balance(5, 119), -11);
        x.open(0);
        x.row(4, 100);
        x.drop();
        due.is("balance(4, 119) behind a dropped one", x.balance(4, 119), 11);
        x.closeMonth(0);
        due.is("balance(4, 0), a closed month", x.balance(4, 0), 11);
        x.correct(1, 3599);
        due.is("balance(4, 118), taken back later", x.balance(4, 118), 11);
        due.is("balance(4, 119), taken back", x.balance(4, 119), 0);
    }

    private static void balancesAddUpBeyondAnInt() {
        CrewShares x = new CrewShares();
        for (int n = 1; n <= 45; n++) {
            x.open(0);
            for (int r = 0; r < 4; r++) {
                x.row(1, MOST);
                x.row(2, -MOST);
            }
            due.is("enter()", x.enter(), n);
        }
        due.is("balance(1, 0)", x.balance(1, 0), 180 * MOST);
        due.is("balance(2, 0)", x.balance(2, 0), -180 * MOST);
    }

    private static void entryAnswersOfItsHead() {
        CrewShares x = with(2);
        x.closeMonth(0);
        x.correct(2, 3599);
        long[][] heads = {{5, 2, 0, 0}, {5, 2, 0, 3}, {3599, 2, 2, 0}};
        for (int n = 1; n <= 3; n++) {
            for (int what = 0; what < 4; what++) {
                due.is("entry(" + n + ", -1, " + what + ")", x.entry(n, -1, what), heads[n - 1][what]);
            }
            for (int what : new int[] {LOW, -1, 4, 5, HIGH}) {
                due.is("entry(" + n + ", -1, " + what + ")", x.entry(n, -1, what), Due.NO_ANSWER);
            }
        }
        for (int n : new int[] {LOW, -1, 0, 4, 60, 61, HIGH}) {
            for (int what = 0; what < 4; what++) {
                due.is("entry(" + n + ", -1, " + what + ")", x.entry(n, -1, what), Due.NO_ANSWER);
                due.is("entry(" + n + ", 0, " + what + ")", x.entry(n, 0, what), Due.NO_ANSWER);
            }
        }
        CrewShares y = new CrewShares();
        y.open(9);
        y.row(0, 1);
        for (int n = -1; n <= 1; n++) {
            due.is("an open entry is not in the book: entry(" + n + ", -1, 0)", y.entry(n, -1, 0), Due.NO_ANSWER);
            due.is("an open entry is not in the book: entry(" + n + ", 0, 0)", y.entry(n, 0, 0), Due.NO_ANSWER);
        }
    }

    private static void entryAnswersOfItsRows() {
        for (int rows = 2; rows <= 8; rows++) {
            CrewShares x = new CrewShares();
            x.open(40);
            for (int r = 0; r < rows; r++) {
                x.row(r + 5, r == 0 ? 1 - rows : 1);
            }
            x.enter();
            due.is("entry(1, -1, 1)", x.entry(1, -1, 1), rows);
            for (int r = 0; r < rows; r++) {
                due.is("entry(1, " + r + ", 0)", x.entry(1, r, 0), r + 5);
                due.is("entry(1, " + r + ", 1)", x.entry(1, r, 1), r == 0 ? 1 - rows : 1);
                for (int what : new int[] {LOW, -1, 2, 3, 4, HIGH}) {
                    due.is("entry(1, " + r + ", " + what + ")", x.entry(1, r, what), Due.NO_ANSWER);
                }
            }
            for (int r : new int[] {LOW, -2, rows, rows + 1, 8, HIGH}) {
                for (int what = 0; what < 4; what++) {
                    due.is("entry(1, " + r + ", " + what + ")", x.entry(1, r, what), Due.NO_ANSWER);
                }
            }
        }
    }
}
