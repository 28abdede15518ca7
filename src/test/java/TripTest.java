/** Promises 4 to 8: persons, advances, trips, costs and days, with their bounds. */
public final class TripTest {
    private static final long BILLION = 1000000000L;
    private static final Due due = new Due();

    public static void main(String[] args) {
        personHasNumbers();
        advanceAddsUp();
        tripHasNumbers();
        costAddsUp();
        costIsRefused();
        daysAnswerWhatTheyWere();
        daysAreRefused();
        due.end();
    }

    private static void personHasNumbers() {
        CrewShares x = new CrewShares();
        int[] none = {-1, 10, 100, Integer.MIN_VALUE, Integer.MAX_VALUE};
        for (int role : none) {
            due.is("person(" + role + ")", x.person(role), -1);
        }
        for (int i = 0; i < 12; i++) {
            due.is("person(" + i % 10 + ")", x.person(i % 10), i);
        }
        due.is("person(0) behind twelve", x.person(0), -1);
        due.is("carried(111)", x.carried(111), 0);
        due.is("carried(112)", x.carried(112), -1);
    }

    private static void advanceAddsUp() {
        CrewShares x = new CrewShares();
        due.no("advance(0, 1) of nobody", x.advance(0, 1));
        x.person(0);
        x.person(0);
        long[] none = {0, -1, BILLION + 1, Long.MIN_VALUE, Long.MAX_VALUE};
        for (long cents : none) {
            due.no("advance(1, " + cents + ")", x.advance(1, cents));
        }
        due.no("advance(2, 1)", x.advance(2, 1));
        due.no("advance(-1, 1)", x.advance(-1, 1));
        due.no("advance(12, 1)", x.advance(12, 1));
        due.is("refused: carried(101)", x.carried(101), 0);
        due.yes("advance(1, 1)", x.advance(1, 1));
        due.yes("advance(1, 1000000000)", x.advance(1, BILLION));
        due.yes("advance(1, 1000000000)", x.advance(1, BILLION));
        due.yes("advance(1, 1000000000)", x.advance(1, BILLION));
        due.is("carried(101)", x.carried(101), 3 * BILLION + 1);
        due.is("carried(100)", x.carried(100), 0);
    }

    private static void tripHasNumbers() {
        CrewShares x = new CrewShares();
        int[] none = {-1, 4, Integer.MIN_VALUE, Integer.MAX_VALUE};
        for (int ship : none) {
            due.is("trip(" + ship + ", 1)", x.trip(ship, 1), -1);
        }
        long[] noSales = {-1, 1000 * BILLION + 1, Long.MIN_VALUE, Long.MAX_VALUE};
        for (long sales : noSales) {
            due.is("trip(0, " + sales + ")", x.trip(0, sales), -1);
        }
        for (int i = 0; i < 20; i++) {
            due.is("trip(" + i % 4 + ", .)", x.trip(i % 4, i % 2 == 0 ? 0 : 1000 * BILLION), i);
        }
        due.is("trip(0, 1) behind twenty", x.trip(0, 1), -1);
        due.is("settle(19)", x.settle(19), 0);
        due.is("part(19, 0)", x.part(19, 0), 1000 * BILLION);
        due.is("settle(20)", x.settle(20), -1);
        due.is("settle(-1)", x.settle(-1), -1);
        due.is("settle(18)", x.settle(18), 0);
        due.is("part(18, 0)", x.part(18, 0), 0);
    }

    private static void costAddsUp() {
        CrewShares x = new CrewShares();
        x.trip(0, 10 * BILLION);
        x.trip(0, 10 * BILLION);
        due.yes("cost(1, 0, 1)", x.cost(1, 0, 1));
        due.yes("cost(1, 9, 1000000000)", x.cost(1, 9, BILLION));
        due.yes("cost(1, 9, 1000000000)", x.cost(1, 9, BILLION));
        due.yes("cost(1, 9, 1000000000)", x.cost(1, 9, BILLION));
        x.settle(0);
        x.settle(1);
        due.is("part(0, 0)", x.part(0, 0), 10 * BILLION);
        due.is("part(1, 0)", x.part(1, 0), 7 * BILLION - 1);
    }

    private static void costIsRefused() {
        CrewShares x = new CrewShares();
        due.no("cost(0, 0, 1) of no trip", x.cost(0, 0, 1));
        x.trip(0, 1000);
        due.no("cost(-1, 0, 1)", x.cost(-1, 0, 1));
        due.no("cost(1, 0, 1)", x.cost(1, 0, 1));
        due.no("cost(20, 0, 1)", x.cost(20, 0, 1));
        due.no("cost(0, -1, 1)", x.cost(0, -1, 1));
        due.no("cost(0, 10, 1)", x.cost(0, 10, 1));
        long[] none = {0, -1, BILLION + 1, Long.MIN_VALUE, Long.MAX_VALUE};
        for (long cents : none) {
            due.no("cost(0, 0, " + cents + ")", x.cost(0, 0, cents));
        }
        x.settle(0);
        due.no("cost(0, 0, 1) of a settled trip", x.cost(0, 0, 1));
        due.is("refused: part(0, 0)", x.part(0, 0), 1000);
        due.yes("refused: sums(0)", x.sums(0));
    }

    private static void daysAnswerWhatTheyWere() {
        CrewShares x = new CrewShares();
        x.person(0);
        x.person(0);
        x.trip(0, 100);
        x.trip(0, 100);
        due.is("days(0, 1, 400)", x.days(0, 1, 400), 0);
        due.is("days(0, 1, 3)", x.days(0, 1, 3), 400);
        due.is("days(0, 1, 3)", x.days(0, 1, 3), 3);
        due.is("days(0, 0, 1)", x.days(0, 0, 1), 0);
        due.is("days(1, 1, 5)", x.days(1, 1, 5), 0);
        due.is("days(0, 1, 0)", x.days(0, 1, 0), 3);
        due.is("settle(0)", x.settle(0), 1);
        due.is("share(0, 0, 0)", x.share(0, 0, 0), 100);
        due.is("settle(1)", x.settle(1), 1);
        due.is("share(1, 1, 0)", x.share(1, 1, 0), 100);
    }

    private static void daysAreRefused() {
        CrewShares x = new CrewShares();
        x.person(0);
        due.is("days(0, 0, 1) of no trip", x.days(0, 0, 1), -1);
        x.trip(0, 100);
        due.is("days(0, 0, 7)", x.days(0, 0, 7), 0);
        int[] none = {-1, 401, Integer.MIN_VALUE, Integer.MAX_VALUE};
        for (int days : none) {
            due.is("days(0, 0, " + days + ")", x.days(0, 0, days), -1);
        }
        due.is("days(0, 1, 1)", x.days(0, 1, 1), -1);
        due.is("days(0, -1, 1)", x.days(0, -1, 1), -1);
        due.is("days(0, 12, 1)", x.days(0, 12, 1), -1);
        due.is("days(-1, 0, 1)", x.days(-1, 0, 1), -1);
        due.is("days(1, 0, 1)", x.days(1, 0, 1), -1);
        due.is("refused: days(0, 0, 7)", x.days(0, 0, 7), 7);
        x.settle(0);
        due.is("days(0, 0, 1) of a settled trip", x.days(0, 0, 1), -1);
    }
}
