/** Promises 14 to 21: the open entry, the book, closed months, corrections, and what the book tells. */
public final class BookTest {
    private static final long MOST = 1000000000000L;
    private static final Due due = new Due();

    public static void main(String[] args) {
        openTakesDays();
        rowsAreCounted();
        rowsAreRefused();
        enterWantsEvenRows();
        dropLeavesNothing();
        closeMonthClosesAllBefore();
        closeMonthSparesTheOpenEntry();
        correctTurnsRowsRound();
        correctIsRefused();
        correctLeavesTheOpenEntry();
        sixtyEntriesFillTheBook();
        balanceCountsMonths();
        entryTellsItsRows();
        due.end();
    }

    private static int entered(CrewShares x, int day, int account, int other, long amount) {
        x.open(day);
        x.row(account, amount);
        x.row(other, -amount);
        return x.enter();
    }

    private static void openTakesDays() {
        CrewShares x = new CrewShares();
        int[] none = {-1, 3600, -30, Integer.MIN_VALUE, Integer.MAX_VALUE};
        for (int day : none) {
            due.no("open(" + day + ")", x.open(day));
        }
        due.is("refused: drop()", x.drop(), -1);
        due.yes("open(3599)", x.open(3599));
        due.no("open(0) while one is", x.open(0));
        due.is("row(0, 1)", x.row(0, 1), 1);
        due.no("open(0) while one is", x.open(0));
        due.is("row(1, -1)", x.row(1, -1), 2);
        due.is("enter()", x.enter(), 1);
        due.is("entry(1, -1, 0)", x.entry(1, -1, 0), 3599);
        due.yes("open(0)", x.open(0));
        due.is("without rows: drop()", x.drop(), 0);
        x.closeMonth(0);
        due.no("open(0) in a closed month", x.open(0));
        due.no("open(29) in a closed month", x.open(29));
        due.yes("open(30)", x.open(30));
    }

    private static void rowsAreCounted() {
        CrewShares x = new CrewShares();
        x.open(0);
        for (int i = 1; i <= 8; i++) {
            due.is("row(" + i + "th)", x.row(i % 2 == 0 ? 19 : 0, i % 2 == 0 ? MOST : -MOST), i);
        }
        due.is("row behind eight", x.row(0, 1), -1);
        due.is("enter()", x.enter(), 1);
        due.is("entry(1, -1, 1)", x.entry(1, -1, 1), 8);
        due.is("balance(19, 0)", x.balance(19, 0), 4 * MOST);
        due.is("balance(0, 0)", x.balance(0, 0), -4 * MOST);
        x.open(1);
        due.is("a new entry has no rows: row", x.row(0, 1), 1);
    }

    private static void rowsAreRefused() {
        CrewShares x = new CrewShares();
        due.is("row(0, 1), none open", x.row(0, 1), -1);
        x.open(0);
        int[] accounts = {-1, 20, Integer.MIN_VALUE, Integer.MAX_VALUE};
        for (int account : accounts) {
            due.is("row(" + account + ", 1)", x.row(account, 1), -1);
        }
        long[] amounts = {0, MOST + 1, -MOST - 1, Long.MIN_VALUE, Long.MAX_VALUE};
        for (long amount : amounts) {
            due.is("row(0, " + amount + ")", x.row(0, amount), -1);
        }
        due.is("refused: drop()", x.drop(), 0);
        due.is("row(0, 1), dropped", x.row(0, 1), -1);
    }

    private static void enterWantsEvenRows() {
        CrewShares x = new CrewShares();
        due.is("enter(), none open", x.enter(), -1);
        x.open(7);
        due.is("enter() without rows", x.enter(), 0);
        x.row(2, 5);
        due.is("enter(), not even", x.enter(), 0);
        x.row(2, -4);
        due.is("enter(), not even", x.enter(), 0);
        due.is("not in the book: balance(2, 119)", x.balance(2, 119), 0);
        due.is("not in the book: entry(1, -1, 0)", x.entry(1, -1, 0), Due.NO_ANSWER);
        due.no("it stays open: open(8)", x.open(8));
        due.is("row(2, -1)", x.row(2, -1), 3);
        due.is("enter()", x.enter(), 1);
        due.is("enter() again", x.enter(), -1);
        due.is("drop() behind enter()", x.drop(), -1);
        due.is("the next one", entered(x, 3, 1, 0, 9), 2);
        due.is("the first one stays: entry(1, -1, 0)", x.entry(1, -1, 0), 7);
        due.is("the first one stays: entry(1, 1, 1)", x.entry(1, 1, 1), -4);
    }

    private static void dropLeavesNothing() {
        CrewShares x = new CrewShares();
        due.is("drop(), none open", x.drop(), -1);
        x.open(0);
        x.row(0, 1);
        x.row(1, -1);
        due.is("drop()", x.drop(), 2);
        due.is("drop() again", x.drop(), -1);
        due.is("enter()", x.enter(), -1);
        due.is("balance(0, 119)", x.balance(0, 119), 0);
        x.open(40);
        due.is("enter() without rows", x.enter(), 0);
        due.is("drop()", x.drop(), 0);
        due.is("the first one in the book", entered(x, 50, 3, 4, 1), 1);
        due.is("entry(1, -1, 1)", x.entry(1, -1, 1), 2);
    }

    private static void closeMonthClosesAllBefore() {
        CrewShares x = new CrewShares();
        int[] none = {-1, 120, Integer.MIN_VALUE, Integer.MAX_VALUE};
        for (int month : none) {
            due.is("closeMonth(" + month + ")", x.closeMonth(month), -1);
        }
        due.yes("refused: open(0)", x.open(0));
        x.drop();
        due.is("closeMonth(4)", x.closeMonth(4), 5);
        due.is("closeMonth(4)", x.closeMonth(4), 0);
        due.is("closeMonth(2)", x.closeMonth(2), 0);
        due.no("open(0)", x.open(0));
        due.no("open(149)", x.open(149));
        due.yes("open(150)", x.open(150));
        x.drop();
        due.is("closeMonth(119)", x.closeMonth(119), 115);
        due.no("open(3599)", x.open(3599));
        due.is("closeMonth(119)", x.closeMonth(119), 0);
    }

    private static void closeMonthSparesTheOpenEntry() {
        CrewShares x = new CrewShares();
        x.open(60);
        due.is("closeMonth(2), its month", x.closeMonth(2), -1);
        due.is("closeMonth(3), behind it", x.closeMonth(3), -1);
        due.is("closeMonth(119), behind it", x.closeMonth(119), -1);
        due.is("closeMonth(0)", x.closeMonth(0), 1);
        due.is("closeMonth(1)", x.closeMonth(1), 1);
        due.is("closeMonth(0)", x.closeMonth(0), 0);
        x.drop();
        due.is("closeMonth(2), dropped", x.closeMonth(2), 1);
        x.open(119);
        due.is("closeMonth(3), its last day", x.closeMonth(3), -1);
        x.row(0, 1);
        x.row(0, -1);
        x.enter();
        due.is("closeMonth(3), entered", x.closeMonth(3), 1);
    }

    private static void correctTurnsRowsRound() {
        CrewShares x = new CrewShares();
        x.open(10);
        x.row(5, 30);
        x.row(6, -50);
        x.row(5, 20);
        x.enter();
        entered(x, 20, 7, 8, 4);
        x.closeMonth(0);
        due.is("correct(1, 100)", x.correct(1, 100), 3);
        long[][] rows = {{5, -30}, {6, 50}, {5, -20}};
        for (int r = 0; r < rows.length; r++) {
            due.is("entry(3, " + r + ", 0)", x.entry(3, r, 0), rows[r][0]);
            due.is("entry(3, " + r + ", 1)", x.entry(3, r, 1), rows[r][1]);
            due.is("the old one: entry(1, " + r + ", 1)", x.entry(1, r, 1), -rows[r][1]);
        }
        long[] heads = {10, 3, 0, 3, 20, 2, 0, 0, 100, 3, 1, 0};
        for (int i = 0; i < heads.length; i++) {
            int number = 1 + i / 4;
            due.is("entry(" + number + ", -1, " + i % 4 + ")", x.entry(number, -1, i % 4), heads[i]);
        }
        due.is("balance(5, 2)", x.balance(5, 2), 50);
        due.is("balance(5, 3)", x.balance(5, 3), 0);
        due.is("correct(2, 3599)", x.correct(2, 3599), 4);
        due.is("entry(4, -1, 2)", x.entry(4, -1, 2), 2);
    }

    private static void correctIsRefused() {
        CrewShares x = new CrewShares();
        entered(x, 29, 0, 1, 5);
        entered(x, 30, 0, 1, 5);
        due.is("correct(1, 40), no month closed", x.correct(1, 40), -1);
        x.closeMonth(0);
        due.is("correct(2, 40), its month not closed", x.correct(2, 40), -1);
        int[] none = {-1, 0, 3, 60, 61, Integer.MIN_VALUE, Integer.MAX_VALUE};
        for (int number : none) {
            due.is("correct(" + number + ", 40)", x.correct(number, 40), -1);
        }
        int[] days = {-1, 0, 29, 3600, Integer.MIN_VALUE, Integer.MAX_VALUE};
        for (int day : days) {
            due.is("correct(1, " + day + ")", x.correct(1, day), -1);
        }
        due.is("refused: entry(3, -1, 0)", x.entry(3, -1, 0), Due.NO_ANSWER);
        due.is("refused: entry(1, -1, 3)", x.entry(1, -1, 3), 0);
        due.is("correct(1, 30)", x.correct(1, 30), 3);
        due.is("correct(1, 30), it was taken back", x.correct(1, 30), -1);
        x.closeMonth(1);
        due.is("correct(1, 60), it was taken back", x.correct(1, 60), -1);
        due.is("correct(3, 60), it takes one back", x.correct(3, 60), -1);
        due.is("correct(2, 60)", x.correct(2, 60), 4);
        x.closeMonth(119);
        due.is("correct(4, 60)", x.correct(4, 60), -1);
    }

    private static void correctLeavesTheOpenEntry() {
        CrewShares x = new CrewShares();
        entered(x, 0, 0, 1, 5);
        x.closeMonth(0);
        x.open(33);
        x.row(9, 70);
        due.is("correct(1, 44)", x.correct(1, 44), 2);
        due.is("row(8, -70)", x.row(8, -70), 2);
        due.is("enter()", x.enter(), 3);
        due.is("entry(3, -1, 0)", x.entry(3, -1, 0), 33);
        due.is("entry(3, 0, 1)", x.entry(3, 0, 1), 70);
        due.is("entry(3, -1, 2)", x.entry(3, -1, 2), 0);
        due.is("entry(2, -1, 0)", x.entry(2, -1, 0), 44);
        due.is("entry(2, 0, 1)", x.entry(2, 0, 1), -5);
    }

    private static void sixtyEntriesFillTheBook() {
        CrewShares x = new CrewShares();
        for (int i = 1; i <= 59; i++) {
            due.is("enter()", entered(x, i % 30, i % 20, (i + 1) % 20, i), i);
        }
        x.closeMonth(0);
        due.yes("open(30), the 60th", x.open(30));
        x.row(0, 1);
        x.row(1, -1);
        due.is("correct(1, 30), the 60th", x.correct(1, 30), 60);
        due.is("enter() into a full book", x.enter(), 0);
        due.is("correct(2, 30) in a full book", x.correct(2, 30), -1);
        due.is("refused: entry(2, -1, 3)", x.entry(2, -1, 3), 0);
        due.is("it stayed open: row(0, 3)", x.row(0, 3), 3);
        due.is("drop()", x.drop(), 3);
        due.no("open(30) with a full book", x.open(30));
        due.is("entry(60, -1, 2)", x.entry(60, -1, 2), 1);
        due.is("entry(61, -1, 0)", x.entry(61, -1, 0), Due.NO_ANSWER);
        due.is("balance(0, 119)", x.balance(0, 119), (20 + 40) - (19 + 39 + 59));
    }

    private static void balanceCountsMonths() {
        CrewShares x = new CrewShares();
        entered(x, 29, 0, 19, 1);
        entered(x, 30, 0, 19, 10);
        entered(x, 59, 0, 0, 7);
        entered(x, 3599, 19, 0, -100);
        x.open(0);
        x.row(0, 5000);
        long[] months = {1, 11, 11};
        for (int m = 0; m < months.length; m++) {
            due.is("balance(0, " + m + ")", x.balance(0, m), months[m]);
            due.is("balance(19, " + m + ")", x.balance(19, m), -months[m]);
        }
        due.is("balance(0, 118)", x.balance(0, 118), 11);
        due.is("balance(0, 119)", x.balance(0, 119), 111);
        due.is("balance(1, 119)", x.balance(1, 119), 0);
        int[] accounts = {-1, 20, Integer.MIN_VALUE, Integer.MAX_VALUE};
        for (int account : accounts) {
            due.is("balance(" + account + ", 0)", x.balance(account, 0), Due.NO_ANSWER);
        }
        int[] noMonths = {-1, 120, Integer.MIN_VALUE, Integer.MAX_VALUE};
        for (int month : noMonths) {
            due.is("balance(0, " + month + ")", x.balance(0, month), Due.NO_ANSWER);
        }
    }

    private static void entryTellsItsRows() {
        CrewShares x = new CrewShares();
        x.open(77);
        x.row(4, MOST);
        x.row(4, -MOST);
        due.is("open yet: entry(1, -1, 0)", x.entry(1, -1, 0), Due.NO_ANSWER);
        x.enter();
        long[] head = {77, 2, 0, 0};
        for (int what = 0; what < head.length; what++) {
            due.is("entry(1, -1, " + what + ")", x.entry(1, -1, what), head[what]);
        }
        due.is("entry(1, 0, 0)", x.entry(1, 0, 0), 4);
        due.is("entry(1, 0, 1)", x.entry(1, 0, 1), MOST);
        due.is("entry(1, 1, 1)", x.entry(1, 1, 1), -MOST);
        int[][] none = {{0, -1, 0}, {2, -1, 0}, {-1, -1, 0}, {61, 0, 0}, {1, -1, -1}, {1, -1, 4}, {1, -2, 0}, {1, 2, 0},
            {1, 7, 1}, {1, 8, 1}, {1, 0, -1}, {1, 0, 2}, {1, 0, 3}, {Integer.MIN_VALUE, 0, 0}, {Integer.MAX_VALUE, 0, 0},
            {1, Integer.MIN_VALUE, 0}, {1, Integer.MAX_VALUE, 0}, {1, 0, Integer.MAX_VALUE}, {1, -1, Integer.MIN_VALUE}};
        for (int[] call : none) {
            due.is("entry(" + call[0] + ", " + call[1] + ", " + call[2] + ")",
                x.entry(call[0], call[1], call[2]), Due.NO_ANSWER);
        }
    }
}
