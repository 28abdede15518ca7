/** The boundary cases of promises 4 to 8: the last values that are taken, the first that are refused, what is full. */
public final class TripEdgesTest {
    private static final int LOW = Integer.MIN_VALUE;
    private static final int HIGH = Integer.MAX_VALUE;
    private static final long BILLION = 1000000000L;
    private static final Due due = new Due();

    public static void main(String[] args) {
        allIsNoneAtFirst();
        personTakesTenRoles();
        twelvePersonsAreAll();
        refusedPersonTakesNoNumber();
        personKeepsItsRole();
        advanceTakesOneToABillion();
        advanceWantsAPersonThatIs();
        advancesAddUpBeyondAnInt();
        tripTakesFourShips();
        tripTakesSalesFromNoneToABillionTimesThousand();
        twentyTripsAreAll();
        refusedTripTakesNoNumber();
        settledTripsCountAmongTheTwenty();
        costTakesTenKinds();
        costTakesOneToABillion();
        costWantsATripThatIsNotSettled();
        costsAddUpBeyondAnInt();
        daysGoFromNoneToFourHundred();
        daysWantATripAndAPersonThatAre();
        daysOfASettledTripStay();
        daysOfOthersStay();
        due.end();
    }

    private static void allIsNoneAtFirst() {
        CrewShares x = Due.made("", "000000000000");
        for (int t = 0; t < 20; t++) {
            x.trip(t % 4, 0);
        }
        for (int i = 0; i < 240; i++) {
            due.is("days(" + i / 12 + ", " + i % 12 + ", 0) at first", x.days(i / 12, i % 12, 0), 0);
        }
        for (int t = 0; t < 20; t++) {
            due.is("settle(" + t + ") without days", x.settle(t), 0);
            due.is("part(" + t + ", 5) without sales and costs", x.part(t, 5), 0);
            due.is("part(" + t + ", 1) without sales and costs", x.part(t, 1), 0);
        }
        for (int who = 0; who < 4; who++) {
            due.is("carried(" + who + ")", x.carried(who), 0);
        }
        for (int who = 100; who < 112; who++) {
            due.is("carried(" + who + ")", x.carried(who), 0);
        }
    }

    private static void personTakesTenRoles() {
        CrewShares x = new CrewShares();
        for (int role = 0; role <= 9; role++) {
            due.is("person(" + role + ")", x.person(role), role);
        }
        for (int role : new int[] {LOW, -1, 10, 11, 256, HIGH}) {
            due.is("person(" + role + ")", x.person(role), -1);
        }
    }

    private static void twelvePersonsAreAll() {
        CrewShares x = new CrewShares();
        for (int i = 0; i < 12; i++) {
            due.is("carried(" + (100 + i) + ") before", x.carried(100 + i), -1);
            due.is("person(9), number " + i, x.person(9), i);
            due.is("carried(" + (100 + i) + ")", x.carried(100 + i), 0);
        }
        due.is("person(9), the 13th", x.person(9), -1);
        due.is("person(0), the 13th", x.person(0), -1);
        due.is("carried(112)", x.carried(112), -1);
        due.no("advance(12, 1)", x.advance(12, 1));
        due.yes("advance(11, 1)", x.advance(11, 1));
        due.is("carried(111)", x.carried(111), 1);
    }

    private static void refusedPersonTakesNoNumber() {
        CrewShares x = new CrewShares();
        for (int i = 0; i < 12; i++) {
            due.is("person(10)", x.person(10), -1);
            due.is("person(-1)", x.person(-1), -1);
            due.is("carried behind refused ones", x.carried(100 + i), -1);
            due.is("person(3) behind refused ones", x.person(3), i);
        }
    }

    /** The roles have weights 0 .. 9, so each person's share of 45 cents tells its role. */
    private static void personKeepsItsRole() {
        StringBuilder rules = new StringBuilder();
        for (int role = 0; role <= 9; role++) {
            rules.append("role ").append(role).append(' ').append(role).append('\n');
        }
        CrewShares x = Due.made(rules.toString(), "9876543210");
        due.is("person(10)", x.person(10), -1);
        x.trip(0, 45);
        for (int p = 0; p < 10; p++) {
            x.days(0, p, 1);
        }
        x.settle(0);
        for (int p = 0; p < 10; p++) {
            due.is("share(0, " + p + ", 0) by the weight of role " + (9 - p), x.share(0, p, 0), 9 - p);
        }
    }

    private static void advanceTakesOneToABillion() {
        for (int p = 0; p < 12; p++) {
            CrewShares x = Due.made("", "000000000000");
            due.yes("advance(" + p + ", 1)", x.advance(p, 1));
            due.is("carried", x.carried(100 + p), 1);
            due.yes("advance(" + p + ", 1000000000)", x.advance(p, BILLION));
            due.is("carried", x.carried(100 + p), BILLION + 1);
            for (long cents : new long[] {0, -1, -BILLION, BILLION + 1, 1L << 32, (1L << 32) + 1, Long.MIN_VALUE,
                Long.MIN_VALUE + 1, Long.MAX_VALUE}) {
                due.no("advance(" + p + ", " + cents + ")", x.advance(p, cents));
            }
            for (int other = 0; other < 12; other++) {
                due.is("carried(" + (100 + other) + ")", x.carried(100 + other), other == p ? BILLION + 1 : 0);
            }
        }
    }

    private static void advanceWantsAPersonThatIs() {
        CrewShares x = new CrewShares();
        for (int persons = 0; persons <= 12; persons++) {
            for (int p : new int[] {LOW, -1, persons, persons + 1, 12, 100, 100 + persons, HIGH}) {
                due.no("advance(" + p + ", 1) with " + persons + " persons", x.advance(p, 1));
            }
            if (persons > 0) {
                due.yes("advance of the last of " + persons, x.advance(persons - 1, 5));
                due.is("carried of the last of " + persons, x.carried(99 + persons), 5);
            }
            if (persons < 12) {
                due.is("person(0)", x.person(0), persons);
                due.is("carried of a new one", x.carried(100 + persons), 0);
            }
        }
    }

    private static void advancesAddUpBeyondAnInt() {
        CrewShares x = Due.made("", "0");
        for (int i = 1; i <= 400; i++) {
            due.yes("advance(0, 1000000000)", x.advance(0, BILLION));
        }
        due.is("carried(100)", x.carried(100), 400 * BILLION);
        x.trip(0, 300 * BILLION + 1);
        x.trip(0, 300 * BILLION);
        x.days(0, 0, 1);
        x.days(1, 0, 1);
        x.settle(0);
        due.is("share(0, 0, 2)", x.share(0, 0, 2), 300 * BILLION + 1);
        due.is("carried(100)", x.carried(100), 100 * BILLION - 1);
        x.settle(1);
        due.is("share(1, 0, 2)", x.share(1, 0, 2), 100 * BILLION - 1);
        due.is("share(1, 0, 3)", x.share(1, 0, 3), 200 * BILLION + 1);
        due.is("carried(100)", x.carried(100), 0);
    }

    private static void tripTakesFourShips() {
        CrewShares x = new CrewShares();
        for (int ship : new int[] {LOW, -1, 4, 5, 256, HIGH}) {
            due.is("trip(" + ship + ", 0)", x.trip(ship, 0), -1);
        }
        for (int ship = 0; ship < 4; ship++) {
            due.is("trip(" + ship + ", 0)", x.trip(ship, 0), ship);
            x.cost(ship, 0, 10 + ship);
            x.settle(ship);
            for (int s = 0; s < 4; s++) {
                due.is("ship " + s + " behind ship " + ship + "'s loss", x.carried(s), s <= ship ? 10 + s : 0);
            }
        }
    }

    private static void tripTakesSalesFromNoneToABillionTimesThousand() {
        long most = 1000 * BILLION;
        for (int ship = 0; ship < 4; ship++) {
            CrewShares x = new CrewShares();
            for (long sales : new long[] {-1, -most, most + 1, 2 * most, Long.MIN_VALUE, Long.MAX_VALUE, -1L << 32}) {
                due.is("trip(" + ship + ", " + sales + ")", x.trip(ship, sales), -1);
            }
            long[] taken = {0, 1, most - 1, most};
            for (int t = 0; t < taken.length; t++) {
                due.is("trip(" + ship + ", " + taken[t] + ")", x.trip(ship, taken[t]), t);
                x.settle(t);
                due.is("LEFT of sales " + taken[t], x.part(t, 0), taken[t]);
            }
        }
    }

    private static void twentyTripsAreAll() {
        CrewShares x = new CrewShares();
        for (int t = 0; t < 20; t++) {
            due.is("settle(" + t + ") before", x.settle(t), -1);
            due.no("cost(" + t + ", 0, 1) before", x.cost(t, 0, 1));
            due.is("trip(3, " + t + ")", x.trip(3, t), t);
        }
        for (int ship = 0; ship < 4; ship++) {
            due.is("trip(" + ship + ", 0), the 21st", x.trip(ship, 0), -1);
        }
        due.is("settle(20)", x.settle(20), -1);
        for (int t = 0; t < 20; t++) {
            due.is("settle(" + t + ")", x.settle(t), 0);
            due.is("part(" + t + ", 0)", x.part(t, 0), t);
        }
    }

    private static void refusedTripTakesNoNumber() {
        CrewShares x = new CrewShares();
        for (int t = 0; t < 20; t++) {
            due.is("trip(4, 1)", x.trip(4, 1), -1);
            due.is("trip(0, -1)", x.trip(0, -1), -1);
            due.is("settle(" + t + ") behind refused ones", x.settle(t), -1);
            due.is("trip(0, 1) behind refused ones", x.trip(0, 1), t);
        }
    }

    private static void settledTripsCountAmongTheTwenty() {
        CrewShares x = new CrewShares();
        for (int t = 0; t < 20; t++) {
            due.is("trip(1, 5)", x.trip(1, 5), t);
            due.is("settle(" + t + ")", x.settle(t), 0);
        }
        due.is("trip(1, 5), the 21st", x.trip(1, 5), -1);
    }

    private static void costTakesTenKinds() {
        CrewShares x = new CrewShares();
        x.trip(0, 1000);
        for (int kind : new int[] {LOW, -1, 10, 11, 256, HIGH}) {
            due.no("cost(0, " + kind + ", 1)", x.cost(0, kind, 1));
        }
        for (int kind = 0; kind <= 9; kind++) {
            due.yes("cost(0, " + kind + ", 2)", x.cost(0, kind, 2));
        }
        x.settle(0);
        due.is("LEFT behind ten costs", x.part(0, 0), 980);
    }

    private static void costTakesOneToABillion() {
        for (int kind = 0; kind <= 9; kind++) {
            CrewShares x = new CrewShares();
            x.trip(0, 5 * BILLION);
            for (long cents : new long[] {0, -1, -BILLION, BILLION + 1, 1L << 32, (1L << 32) + 1, Long.MIN_VALUE,
                Long.MIN_VALUE + 1, Long.MAX_VALUE}) {
                due.no("cost(0, " + kind + ", " + cents + ")", x.cost(0, kind, cents));
            }
            due.yes("cost(0, " + kind + ", 1)", x.cost(0, kind, 1));
            due.yes("cost(0, " + kind + ", 1000000000)", x.cost(0, kind, BILLION));
            x.settle(0);
            due.is("LEFT behind both", x.part(0, 0), 4 * BILLION - 1);
            due.yes("sums(0)", x.sums(0));
        }
    }

    private static void costWantsATripThatIsNotSettled() {
        CrewShares x = new CrewShares();
        for (int trips = 0; trips <= 20; trips++) {
            for (int t : new int[] {LOW, -1, trips, trips + 1, 20, HIGH}) {
                due.no("cost(" + t + ", 0, 1) with " + trips + " trips", x.cost(t, 0, 1));
            }
            if (trips > 0) {
                int last = trips - 1;
                due.yes("cost of the last of " + trips, x.cost(last, 9, 5));
                x.settle(last);
                due.no("cost of a settled trip", x.cost(last, 9, 5));
                due.is("LEFT of the last of " + trips, x.part(last, 0), last);
                due.yes("sums behind a refused cost", x.sums(last));
            }
            if (trips < 20) {
                due.is("trip(0, .)", x.trip(0, 5 + trips), trips);
            }
        }
    }

    private static void costsAddUpBeyondAnInt() {
        CrewShares x = Due.made("cost 8 1", "");
        x.trip(2, 0);
        x.trip(2, 400 * BILLION);
        for (int i = 0; i < 400; i++) {
            due.yes("cost(0, 7, 1000000000)", x.cost(0, 7, BILLION));
        }
        for (int i = 0; i < 50; i++) {
            due.yes("cost(0, 8, 1000000000)", x.cost(0, 8, BILLION));
        }
        x.settle(0);
        due.is("carried(2)", x.carried(2), 400 * BILLION);
        due.is("part(0, 5)", x.part(0, 5), 400 * BILLION);
        due.is("part(0, 1)", x.part(0, 1), -50 * BILLION);
        x.settle(1);
        due.is("part(1, 4)", x.part(1, 4), 400 * BILLION);
        due.is("part(1, 0)", x.part(1, 0), 0);
        due.is("carried(2)", x.carried(2), 0);
    }

    private static void daysGoFromNoneToFourHundred() {
        CrewShares x = Due.made("", "0");
        x.trip(0, 1);
        int before = 0;
        for (int days : new int[] {0, 1, 0, 400, 399, 400, 400, 1, 0}) {
            due.is("days(0, 0, " + days + ")", x.days(0, 0, days), before);
            before = days;
            for (int none : new int[] {LOW, -1, -400, 401, 402, HIGH}) {
                due.is("days(0, 0, " + none + ")", x.days(0, 0, none), -1);
            }
        }
        for (int days = 0; days <= 400; days++) {
            due.is("days(0, 0, " + days + ")", x.days(0, 0, days), Math.max(days - 1, 0));
        }
    }

    private static void daysWantATripAndAPersonThatAre() {
        CrewShares x = new CrewShares();
        due.is("days(0, 0, 0) of a new object", x.days(0, 0, 0), -1);
        x.trip(0, 1);
        due.is("days(0, 0, 0) without persons", x.days(0, 0, 0), -1);
        for (int n = 1; n <= 12; n++) {
            x.person(0);
            x.trip(0, 1);
            for (int p : new int[] {LOW, -1, n, 12, 100, HIGH}) {
                due.is("days(0, " + p + ", 1) with " + n + " persons", x.days(0, p, 1), -1);
            }
            for (int t : new int[] {LOW, -1, n + 1, 20, HIGH}) {
                due.is("days(" + t + ", 0, 1) with " + (n + 1) + " trips", x.days(t, 0, 1), -1);
            }
            due.is("days of the last of each", x.days(n, n - 1, n), 0);
            due.is("days of the last of each", x.days(n, n - 1, n), n);
        }
        CrewShares y = new CrewShares();
        y.person(0);
        due.is("days(0, 0, 0) without trips", y.days(0, 0, 0), -1);
    }

    private static void daysOfASettledTripStay() {
        CrewShares x = Due.made("", "00");
        x.trip(0, 100);
        x.days(0, 0, 1);
        due.is("settle(0)", x.settle(0), 1);
        due.is("days(0, 0, 0) of a settled trip", x.days(0, 0, 0), -1);
        due.is("days(0, 0, 1) of a settled trip", x.days(0, 0, 1), -1);
        due.is("days(0, 1, 400) of a settled trip", x.days(0, 1, 400), -1);
        due.is("share(0, 0, 0)", x.share(0, 0, 0), 100);
        due.is("share(0, 1, 0)", x.share(0, 1, 0), 0);
        due.is("settle(0) again", x.settle(0), -1);
    }

    private static void daysOfOthersStay() {
        CrewShares x = Due.made("", "000000000000");
        for (int t = 0; t < 10; t++) {
            x.trip(0, 0);
            for (int p = 0; p < 12; p++) {
                due.is("days(" + t + ", " + p + ", .)", x.days(t, p, 12 * t + p), 0);
            }
        }
        for (int i = 0; i < 120; i++) {
            due.is("days(" + i / 12 + ", " + i % 12 + ", 0)", x.days(i / 12, i % 12, 0), i);
        }
    }
}
