import java.util.function.Supplier;
import java.util.function.ToLongFunction;

/** "A call that is refused changes nothing": twins, of which one has had the refused call, answer alike to all. */
public final class RefusalTest {
    private static final int LOW = Integer.MIN_VALUE;
    private static final int HIGH = Integer.MAX_VALUE;
    private static final long BILLION = 1000000000L;
    private static final Due due = new Due();

    private final String state;
    private final Supplier<CrewShares> making;

    private RefusalTest(String state, Supplier<CrewShares> making) {
        this.state = state;
        this.making = making;
    }

    public static void main(String[] args) {
        onNewObject(new RefusalTest("new", CrewShares::new));
        onMidway(new RefusalTest("midway", RefusalTest::midway));
        onFull(new RefusalTest("full", RefusalTest::full));
        onOpenWithoutRows(new RefusalTest("open without rows", RefusalTest::openWithoutRows));
        onAllClosed(new RefusalTest("all closed", RefusalTest::allClosed));
        wrongTextsLeaveAllElse();
        due.end();
    }

    /** The call answers so, and behind it all is as before. */
    private void leaves(String name, long want, ToLongFunction<CrewShares> call) {
        String what = state + ", behind " + name;
        due.is(state + ", " + name, call.applyAsLong(making.get()), want);
        Sight.same(due, what, making, () -> {
            CrewShares x = making.get();
            call.applyAsLong(x);
            return x;
        });
    }

    private void refuses(String name, ToLongFunction<CrewShares> call) {
        leaves(name, CrewShares.NONE, call);
    }

    private void denies(String name, ToLongFunction<CrewShares> call) {
        leaves(name, 0, call);
    }

    private void hasNoAnswer(String name, ToLongFunction<CrewShares> call) {
        leaves(name, Due.NO_ANSWER, call);
    }

    private static long bit(boolean answer) {
        return answer ? 1 : 0;
    }

    /** Rules, four persons, settled trips 0 and 1, open trips 2 and 3, five entries, an open one, half a text. */
    private static CrewShares midway() {
        CrewShares x = Due.made("ship 40 gear 10 cost 1 1 cost 2 2 role 1 3 least 2 500", "0123");
        x.advance(0, 300);
        x.advance(1, 100000);
        x.advance(2, 1);
        x.trip(0, 1000);
        x.cost(0, 0, 1500);
        x.settle(0);
        x.trip(1, 100000);
        x.cost(1, 1, 700);
        x.cost(1, 2, 900);
        for (int p = 0; p < 3; p++) {
            x.days(1, p, 9 - p);
        }
        x.settle(1);
        x.trip(0, 5001);
        x.cost(2, 0, 40);
        x.cost(2, 1, 11);
        x.days(2, 0, 5);
        x.days(2, 1, 3);
        x.trip(2, 77);
        enter(x, 5, 30, -50, 20);
        enter(x, 10, 7, -7);
        enter(x, 35, 1, -1);
        enter(x, 90, 4, 4, -8);
        x.closeMonth(1);
        x.correct(1, 70);
        x.closeMonth(2);
        x.open(95);
        x.row(4, 10);
        x.row(5, -3);
        Due.write(x, "ship 2");
        return x;
    }

    private static void enter(CrewShares x, int day, long... amounts) {
        x.open(day);
        for (int i = 0; i < amounts.length; i++) {
            x.row(i, amounts[i]);
        }
        x.enter();
    }

    /** Twelve persons, twenty trips, sixty entries and an open one with eight rows that are 0 together. */
    private static CrewShares full() {
        CrewShares x = Due.made("ship 30 least 1 50", "012345678901");
        x.advance(11, BILLION);
        for (int t = 0; t < 20; t++) {
            x.trip(t % 4, 100 * t);
        }
        for (int p = 0; p < 12; p++) {
            x.days(19, p, p);
        }
        x.settle(18);
        for (int i = 1; i <= 30; i++) {
            enter(x, i - 1, i, -i);
        }
        x.closeMonth(0);
        x.open(3599);
        for (int i = 0; i < 8; i++) {
            x.row(i + 12, i < 4 ? 5 : -5);
        }
        for (int i = 1; i <= 30; i++) {
            x.correct(i, 29 + i);
        }
        return x;
    }

    private static CrewShares openWithoutRows() {
        CrewShares x = new CrewShares();
        enter(x, 29, 3, -3);
        x.closeMonth(0);
        x.open(30);
        return x;
    }

    private static CrewShares allClosed() {
        CrewShares x = new CrewShares();
        enter(x, 3599, 3, -3);
        x.closeMonth(119);
        return x;
    }

    private static void onNewObject(RefusalTest on) {
        on.valuesOutOfBounds(0, 0);
        on.denies("advance(0, 1) of nobody", x -> bit(x.advance(0, 1)));
        on.denies("cost(0, 0, 1) of no trip", x -> bit(x.cost(0, 0, 1)));
        on.refuses("days(0, 0, 1) of no trip", x -> x.days(0, 0, 1));
        on.refuses("settle(0) of no trip", x -> x.settle(0));
        on.hasNoAnswer("part(0, 0)", x -> x.part(0, 0));
        on.hasNoAnswer("share(0, 0, 0)", x -> x.share(0, 0, 0));
        on.refuses("carried(100)", x -> x.carried(100));
        on.denies("sums(0)", x -> bit(x.sums(0)));
        on.noneIsOpen();
        on.refuses("correct(1, 0)", x -> x.correct(1, 0));
        on.hasNoAnswer("entry(1, -1, 0)", x -> x.entry(1, -1, 0));
    }

    private void noneIsOpen() {
        refuses("row(0, 1), none open", x -> x.row(0, 1));
        refuses("enter(), none open", CrewShares::enter);
        refuses("drop(), none open", CrewShares::drop);
    }

    private static void onMidway(RefusalTest on) {
        on.valuesOutOfBounds(2, 0);
        on.denies("advance(4, 1)", x -> bit(x.advance(4, 1)));
        on.refuses("days(2, 4, 1)", x -> x.days(2, 4, 1));
        on.denies("cost(4, 0, 1)", x -> bit(x.cost(4, 0, 1)));
        on.refuses("days(4, 0, 1)", x -> x.days(4, 0, 1));
        for (int settled = 0; settled < 2; settled++) {
            int t = settled;
            on.denies("cost(" + t + ", 0, 1), settled", x -> bit(x.cost(t, 0, 1)));
            on.refuses("days(" + t + ", 3, 1), settled", x -> x.days(t, 3, 1));
            on.refuses("days(" + t + ", 0, 0), settled", x -> x.days(t, 0, 0));
            on.refuses("settle(" + t + "), settled", x -> x.settle(t));
        }
        for (int toSettle = 2; toSettle < 5; toSettle++) {
            int t = toSettle;
            on.hasNoAnswer("part(" + t + ", 0), not settled", x -> x.part(t, 0));
            on.hasNoAnswer("share(" + t + ", 0, 0), not settled", x -> x.share(t, 0, 0));
            on.denies("sums(" + t + "), not settled", x -> bit(x.sums(t)));
        }
        on.hasNoAnswer("share(1, 4, 0)", x -> x.share(1, 4, 0));
        on.refuses("carried(104)", x -> x.carried(104));
        on.bookIsRefusedMidway();
        on.questionsChangeNothing();
    }

    private void bookIsRefusedMidway() {
        for (int day : new int[] {0, 89, 90, 95, 96, 3599}) {
            denies("open(" + day + ") while one is", x -> bit(x.open(day)));
        }
        denies("enter(), not 0 together", CrewShares::enter);
        for (int month : new int[] {3, 4, 119}) {
            refuses("closeMonth(" + month + "), the open one's month or behind", x -> x.closeMonth(month));
        }
        leaves("closeMonth(2), closed", 0, x -> x.closeMonth(2));
        leaves("closeMonth(0), closed", 0, x -> x.closeMonth(0));
        for (int number : new int[] {0, 6}) {
            refuses("correct(" + number + ", 100), no such", x -> x.correct(number, 100));
        }
        refuses("correct(4, 100), its month is not closed", x -> x.correct(4, 100));
        refuses("correct(1, 100), taken back", x -> x.correct(1, 100));
        refuses("correct(5, 100), takes one back", x -> x.correct(5, 100));
        for (int day : new int[] {LOW, -1, 0, 30, 89, 3600, HIGH}) {
            refuses("correct(2, " + day + ")", x -> x.correct(2, day));
        }
        hasNoAnswer("entry(6, -1, 0)", x -> x.entry(6, -1, 0));
        hasNoAnswer("entry(1, 3, 0)", x -> x.entry(1, 3, 0));
    }

    private void questionsChangeNothing() {
        leaves("part(1, 4)", 0, x -> x.part(1, 4));
        leaves("share(1, 3, 3)", 0, x -> x.share(1, 3, 3));
        leaves("carried(0)", 500, x -> x.carried(0));
        leaves("carried(102)", 0, x -> x.carried(102));
        leaves("sums(1)", 1, x -> bit(x.sums(1)));
        leaves("balance(0, 0)", 37, x -> x.balance(0, 0));
        leaves("entry(1, -1, 3)", 5, x -> x.entry(1, -1, 3));
        leaves("entry(1, 2, 1)", 20, x -> x.entry(1, 2, 1));
        leaves("days(2, 0, 5) as before", 5, x -> x.days(2, 0, 5));
    }

    private static void onFull(RefusalTest on) {
        on.valuesOutOfBounds(19, 11);
        for (int role = 0; role < 10; role++) {
            int r = role;
            on.refuses("person(" + r + ") behind twelve", x -> x.person(r));
        }
        for (int ship = 0; ship < 4; ship++) {
            int s = ship;
            on.refuses("trip(" + s + ", 1) behind twenty", x -> x.trip(s, 1));
        }
        on.refuses("row(0, 1) behind eight", x -> x.row(0, 1));
        on.refuses("row(19, -1) behind eight", x -> x.row(19, -1));
        on.denies("enter() behind sixty", CrewShares::enter);
        on.refuses("correct(31, 3599) behind sixty", x -> x.correct(31, 3599));
        on.refuses("correct(1, 3599) behind sixty", x -> x.correct(1, 3599));
        on.hasNoAnswer("entry(61, -1, 0)", x -> x.entry(61, -1, 0));
        Supplier<CrewShares> fullAndDropped = () -> {
            CrewShares x = full();
            x.drop();
            return x;
        };
        RefusalTest dropped = new RefusalTest("full, none open", fullAndDropped);
        dropped.denies("open(30) behind sixty", x -> bit(x.open(30)));
        dropped.denies("open(3599) behind sixty", x -> bit(x.open(3599)));
        dropped.noneIsOpen();
    }

    private static void onOpenWithoutRows(RefusalTest on) {
        on.denies("enter() without rows", CrewShares::enter);
        on.refuses("closeMonth(1)", x -> x.closeMonth(1));
        on.refuses("closeMonth(119)", x -> x.closeMonth(119));
        on.denies("open(30)", x -> bit(x.open(30)));
        on.denies("open(31)", x -> bit(x.open(31)));
        on.refuses("correct(1, 29)", x -> x.correct(1, 29));
        on.refuses("correct(2, 30)", x -> x.correct(2, 30));
    }

    private static void onAllClosed(RefusalTest on) {
        for (int day : new int[] {0, 29, 30, 1800, 3570, 3599}) {
            on.denies("open(" + day + ")", x -> bit(x.open(day)));
            on.refuses("correct(1, " + day + ")", x -> x.correct(1, day));
        }
        on.leaves("closeMonth(119)", 0, x -> x.closeMonth(119));
        on.refuses("closeMonth(120)", x -> x.closeMonth(120));
        on.noneIsOpen();
    }

    /** Values that no state takes, beside a trip to settle and a person that are right where there are such. */
    private void valuesOutOfBounds(int trip, int person) {
        for (int u : new int[] {LOW, -1, 256, HIGH}) {
            denies("unit(" + u + ")", x -> bit(x.unit(u)));
        }
        for (int role : new int[] {LOW, -1, 10, HIGH}) {
            refuses("person(" + role + ")", x -> x.person(role));
        }
        for (int ship : new int[] {LOW, -1, 4, HIGH}) {
            refuses("trip(" + ship + ", 1)", x -> x.trip(ship, 1));
        }
        for (long sales : new long[] {Long.MIN_VALUE, -1, 1000 * BILLION + 1, Long.MAX_VALUE}) {
            refuses("trip(0, " + sales + ")", x -> x.trip(0, sales));
        }
        for (long cents : new long[] {Long.MIN_VALUE, -1, 0, BILLION + 1, Long.MAX_VALUE}) {
            denies("advance(" + person + ", " + cents + ")", x -> bit(x.advance(person, cents)));
            denies("cost(" + trip + ", 0, " + cents + ")", x -> bit(x.cost(trip, 0, cents)));
        }
        for (int kind : new int[] {LOW, -1, 10, HIGH}) {
            denies("cost(" + trip + ", " + kind + ", 1)", x -> bit(x.cost(trip, kind, 1)));
        }
        for (int days : new int[] {LOW, -1, 401, HIGH}) {
            refuses("days(" + trip + ", " + person + ", " + days + ")", x -> x.days(trip, person, days));
        }
        tripsOutOfBounds(person);
        personsOutOfBounds(trip);
        bookOutOfBounds();
    }

    private void tripsOutOfBounds(int person) {
        for (int trip : new int[] {LOW, -1, 20, HIGH}) {
            denies("cost(" + trip + ", 0, 1)", x -> bit(x.cost(trip, 0, 1)));
            refuses("days(" + trip + ", " + person + ", 1)", x -> x.days(trip, person, 1));
            refuses("settle(" + trip + ")", x -> x.settle(trip));
            hasNoAnswer("part(" + trip + ", 0)", x -> x.part(trip, 0));
            hasNoAnswer("share(" + trip + ", " + person + ", 0)", x -> x.share(trip, person, 0));
            denies("sums(" + trip + ")", x -> bit(x.sums(trip)));
        }
    }

    private void personsOutOfBounds(int trip) {
        for (int person : new int[] {LOW, -1, 12, HIGH}) {
            denies("advance(" + person + ", 1)", x -> bit(x.advance(person, 1)));
            refuses("days(" + trip + ", " + person + ", 1)", x -> x.days(trip, person, 1));
        }
        for (int who : new int[] {LOW, -1, 4, 99, 112, HIGH}) {
            refuses("carried(" + who + ")", x -> x.carried(who));
        }
    }

    private void bookOutOfBounds() {
        for (int day : new int[] {LOW, -1, 3600, HIGH}) {
            denies("open(" + day + ")", x -> bit(x.open(day)));
        }
        for (int account : new int[] {LOW, -1, 20, HIGH}) {
            refuses("row(" + account + ", 1)", x -> x.row(account, 1));
            hasNoAnswer("balance(" + account + ", 0)", x -> x.balance(account, 0));
        }
        long most = 1000 * BILLION;
        for (long amount : new long[] {Long.MIN_VALUE, -most - 1, 0, most + 1, Long.MAX_VALUE}) {
            refuses("row(0, " + amount + ")", x -> x.row(0, amount));
        }
        for (int month : new int[] {LOW, -1, 120, HIGH}) {
            refuses("closeMonth(" + month + ")", x -> x.closeMonth(month));
            hasNoAnswer("balance(0, " + month + ")", x -> x.balance(0, month));
        }
        for (int entry : new int[] {LOW, -1, 0, 61, HIGH}) {
            refuses("correct(" + entry + ", 3599)", x -> x.correct(entry, 3599));
            hasNoAnswer("entry(" + entry + ", -1, 0)", x -> x.entry(entry, -1, 0));
        }
    }

    /** A wrong text is gone behind read(), and nothing else has changed: the rules stay. */
    private static void wrongTextsLeaveAllElse() {
        String[] texts = {"x", "ship", "ship 101", "ship 9 gear 92", "gear 0 gear 0", "ship 1 ship 1", "cost 10 0",
            "cost 0 3", "cost 0", "role 1 0 role 1 1001", "least 0 9 least 0 1000000", "ship 100 role 1 0 least 2 0 cost 0 2 x"};
        for (String text : texts) {
            Sight.same(due, "behind read() of " + text, RefusalTest::midwayWithoutText, () -> {
                CrewShares x = midwayWithoutText();
                due.yes("read() of " + text + " is below 0", Due.read(x, text) < 0);
                return x;
            });
        }
    }

    private static CrewShares midwayWithoutText() {
        CrewShares x = midway();
        Due.write(x, "x");
        x.read();
        return x;
    }
}
