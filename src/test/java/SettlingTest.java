/** Promises 9 to 13: what settling gives to whom, what is carried, and that the sums are even. */
public final class SettlingTest {
    private static final Due due = new Due();

    public static void main(String[] args) {
        settleCountsPersonsWithDays();
        settleIsRefused();
        lossIsCarriedByTheShip();
        centsGoToTheMostCut();
        centsAmongTwelve();
        crewsCostsComeOffTheShipsPartToo();
        shipHasTheCrewsPartWithoutWeights();
        leastPayComesFromTheShip();
        advanceComesOffWhatIsPaid();
        bigSumsAreExact();
        queriesAreRefused();
        due.end();
    }

    private static void parts(String run, CrewShares x, int trip, long... want) {
        for (int what = 0; what < want.length; what++) {
            due.is(run + ": part(" + trip + ", " + what + ")", x.part(trip, what), want[what]);
        }
        due.yes(run + ": sums(" + trip + ")", x.sums(trip));
    }

    private static void shares(String run, CrewShares x, int trip, int person, long... want) {
        for (int what = 0; what < want.length; what++) {
            due.is(run + ": share(" + trip + ", " + person + ", " + what + ")", x.share(trip, person, what), want[what]);
        }
    }

    /** An object with such rules, persons of such roles, and a trip of ship 0 with such sales. */
    private static CrewShares made(String rules, String roles, long sales) {
        CrewShares x = Due.made(rules, roles);
        x.trip(0, sales);
        return x;
    }

    private static void settleCountsPersonsWithDays() {
        CrewShares x = made("role 1 0", "0101", 10);
        x.days(0, 1, 1);
        x.days(0, 2, 2);
        x.days(0, 3, 3);
        x.days(0, 2, 0);
        due.is("settle(0) with weights of 0", x.settle(0), 2);
        parts("weights of 0", x, 0, 10, 10, 0, 10, 0, 0);
        CrewShares y = made("", "000000000000", 120);
        for (int p = 0; p < 12; p++) {
            y.days(0, p, 400);
        }
        due.is("settle(0) with twelve", y.settle(0), 12);
        shares("twelve", y, 0, 11, 10, 0, 0, 10);
    }

    private static void settleIsRefused() {
        CrewShares x = made("", "0", 100);
        int[] none = {-1, 1, 20, Integer.MIN_VALUE, Integer.MAX_VALUE};
        for (int trip : none) {
            due.is("settle(" + trip + ")", x.settle(trip), -1);
        }
        x.cost(0, 0, 150);
        x.advance(0, 10);
        due.is("settle(0)", x.settle(0), 0);
        due.is("settle(0) again", x.settle(0), -1);
        due.is("once: carried(0)", x.carried(0), 50);
        due.is("once: carried(100)", x.carried(100), 10);
    }

    private static void lossIsCarriedByTheShip() {
        CrewShares x = made("ship 50", "0", 100);
        x.cost(0, 0, 170);
        x.trip(0, 30);
        x.trip(0, 45);
        x.trip(1, 20);
        x.trip(0, 40);
        for (int t = 0; t < 5; t++) {
            x.days(t, 0, 1);
            x.settle(t);
        }
        parts("first loss", x, 0, 0, 0, 0, 0, 0, 70);
        parts("less loss", x, 1, 0, 0, 0, 0, 70, 40);
        parts("loss borne", x, 2, 5, 3, 0, 2, 40, 0);
        parts("other ship", x, 3, 20, 10, 0, 10, 0, 0);
        parts("no loss", x, 4, 40, 20, 0, 20, 0, 0);
        CrewShares y = made("", "", 10);
        y.cost(0, 0, 10);
        y.settle(0);
        parts("just nothing", y, 0, 0, 0, 0, 0, 0, 0);
        CrewShares z = made("", "", 10);
        z.trip(3, 5);
        z.cost(1, 1, 6);
        z.settle(1);
        due.is("carried(3)", z.carried(3), 1);
        due.is("carried(0)", z.carried(0), 0);
        due.is("carried(2)", z.carried(2), 0);
    }

    private static void centsGoToTheMostCut() {
        CrewShares x = made("ship 33 gear 33", "", 2);
        x.settle(0);
        parts("two cents: most cut, then first", x, 0, 2, 2, 0, 1, 0, 0);
        CrewShares y = made("ship 25 gear 25", "000", 1);
        y.settle(0);
        parts("the crew is cut by most", y, 0, 1, 1, 0, 1);
        CrewShares z = made("ship 50 gear 50", "", 7);
        z.settle(0);
        parts("alike: the first", z, 0, 7, 4, 3, 0);
        CrewShares w = made("gear 50", "", 7);
        w.settle(0);
        parts("alike: the gear before the crew", w, 0, 7, 3, 4, 3);
        CrewShares v = made("role 1 2 role 2 3", "0120", 11);
        v.days(0, 0, 1);
        v.days(0, 1, 1);
        v.days(0, 2, 1);
        v.days(0, 3, 1);
        v.settle(0);
        shares("one of seven", v, 0, 0, 2);
        shares("two of seven", v, 0, 1, 3);
        shares("three of seven", v, 0, 2, 5);
        shares("one of seven, later", v, 0, 3, 1);
    }

    private static void centsAmongTwelve() {
        CrewShares x = made("", "000000000000", 23);
        x.trip(0, 2);
        for (int p = 0; p < 12; p++) {
            x.days(0, p, 1);
        }
        for (int p = 0; p < 4; p++) {
            x.days(1, p + 2, 1);
        }
        x.settle(0);
        x.settle(1);
        for (int p = 0; p < 12; p++) {
            shares("23 cents to twelve", x, 0, p, p < 11 ? 2 : 1);
            shares("2 cents to four of twelve", x, 1, p, p == 2 || p == 3 ? 1 : 0);
        }
        CrewShares y = made("role 9 5", "000000000009", 16);
        for (int p = 0; p < 12; p++) {
            y.days(0, p, 1);
        }
        y.trip(0, 3);
        y.days(1, 0, 1);
        y.days(1, 1, 1);
        y.settle(0);
        y.settle(1);
        shares("all whole", y, 0, 0, 1);
        shares("all whole", y, 0, 11, 5);
        shares("the first of two", y, 1, 0, 2);
        shares("the second of two", y, 1, 1, 1);
    }

    private static void crewsCostsComeOffTheShipsPartToo() {
        String rules = "ship 30 gear 20 cost 1 1 cost 2 2 cost 3 1 cost 4 2";
        CrewShares x = made(rules, "0", 1000);
        x.days(0, 0, 1);
        x.cost(0, 1, 400);
        x.cost(0, 3, 100);
        x.settle(0);
        parts("crew's costs alike", x, 0, 1000, 300, 200, 0, 0, 0);
        CrewShares y = made(rules, "0", 1000);
        y.days(0, 0, 1);
        y.cost(0, 1, 400);
        y.cost(0, 3, 177);
        y.cost(0, 2, 250);
        y.cost(0, 4, 1);
        y.settle(0);
        parts("crew's costs are more", y, 0, 1000, -28, 200, 0, 0, 0);
        shares("crew's costs are more", y, 0, 0, 0, 0, 0, 0);
        CrewShares z = made(rules, "0", 1000);
        z.days(0, 0, 1);
        z.cost(0, 1, 499);
        z.cost(0, 2, 301);
        z.settle(0);
        parts("ship's part below 0", z, 0, 1000, -1, 200, 1, 0, 0);
        due.is("a part below 0 is no loss: carried(0)", z.carried(0), 0);
        CrewShares w = made(rules, "0", 10);
        w.cost(0, 0, 20);
        w.cost(0, 1, 5);
        w.cost(0, 2, 7);
        w.settle(0);
        parts("costs with nothing left", w, 0, 0, -12, 0, 0, 0, 10);
    }

    private static void shipHasTheCrewsPartWithoutWeights() {
        CrewShares x = made("ship 10 gear 10 role 5 0 cost 1 1", "5", 100);
        x.trip(0, 100);
        x.cost(0, 1, 15);
        x.cost(1, 1, 15);
        x.days(1, 0, 5);
        due.is("settle(0) without days", x.settle(0), 0);
        parts("without days", x, 0, 100, 75, 10, 65, 0, 0);
        due.is("settle(1) without weight", x.settle(1), 1);
        parts("without weight", x, 1, 100, 75, 10, 65, 0, 0);
        shares("without weight", x, 1, 0, 0, 0, 0, 0);
    }

    private static void leastPayComesFromTheShip() {
        CrewShares x = made("ship 50 least 0 10 least 1 25", "0012", 120);
        x.days(0, 0, 2);
        x.days(0, 1, 1);
        x.days(0, 2, 3);
        due.is("settle(0)", x.settle(0), 3);
        shares("just the least", x, 0, 0, 20, 0, 0, 20);
        shares("just the least", x, 0, 1, 10, 0, 0, 10);
        shares("less than the least", x, 0, 2, 30, 45, 0, 75);
        shares("without days", x, 0, 3, 0, 0, 0, 0);
        parts("least pay", x, 0, 120, 15, 0, 60, 0, 0);
        CrewShares y = made("least 3 999999 role 3 0", "3", 0);
        y.days(0, 0, 400);
        y.settle(0);
        shares("the most", y, 0, 0, 0, 399999600L, 0, 399999600L);
        parts("the most", y, 0, 0, -399999600L, 0, 0, 0, 0);
    }

    private static void advanceComesOffWhatIsPaid() {
        CrewShares x = made("least 1 30 role 1 0", "011", 100);
        x.trip(0, 100);
        x.days(0, 0, 1);
        x.days(0, 1, 1);
        x.days(0, 2, 1);
        x.advance(0, 130);
        x.advance(1, 29);
        x.advance(2, 30);
        x.settle(0);
        shares("more advance", x, 0, 0, 100, 0, 100, 0);
        shares("less advance, of the least pay", x, 0, 1, 0, 30, 29, 1);
        shares("as much advance", x, 0, 2, 0, 30, 30, 0);
        due.is("carried(100)", x.carried(100), 30);
        due.is("carried(101)", x.carried(101), 0);
        due.is("carried(102)", x.carried(102), 0);
        x.days(1, 0, 1);
        x.settle(1);
        shares("the rest of it", x, 1, 0, 100, 0, 30, 70);
        due.is("carried(100)", x.carried(100), 0);
        parts("advances are no matter of the parts", x, 0, 100, -60, 0, 100, 0, 0);
    }

    private static void bigSumsAreExact() {
        CrewShares x = made("role 1 999 role 2 1000", "122", 1000000000000L);
        x.days(0, 0, 400);
        x.days(0, 1, 400);
        x.days(0, 2, 399);
        x.settle(0);
        // By 399600, 400000 and 399000 of 1198600: the exact shares end in .41, .87 and .73, so the last two get a cent.
        shares("of 10^12", x, 0, 0, 333388953779L);
        shares("of 10^12", x, 0, 1, 333722676456L);
        shares("of 10^12", x, 0, 2, 332888369765L);
        parts("of 10^12", x, 0, 1000000000000L, 0, 0, 1000000000000L, 0, 0);
    }

    private static void queriesAreRefused() {
        CrewShares x = made("", "00", 100);
        x.trip(0, 5);
        x.days(0, 0, 1);
        due.is("part(0, 0) before", x.part(0, 0), Due.NO_ANSWER);
        due.is("share(0, 0, 0) before", x.share(0, 0, 0), Due.NO_ANSWER);
        due.no("sums(0) before", x.sums(0));
        x.settle(0);
        int[] trips = {-1, 1, 2, 20, Integer.MIN_VALUE, Integer.MAX_VALUE};
        for (int trip : trips) {
            due.is("part(" + trip + ", 0)", x.part(trip, 0), Due.NO_ANSWER);
            due.is("share(" + trip + ", 0, 0)", x.share(trip, 0, 0), Due.NO_ANSWER);
            due.no("sums(" + trip + ")", x.sums(trip));
        }
        int[] whats = {-1, 6, Integer.MIN_VALUE, Integer.MAX_VALUE};
        for (int what : whats) {
            due.is("part(0, " + what + ")", x.part(0, what), Due.NO_ANSWER);
            due.is("share(0, 0, " + what + ")", x.share(0, 0, what), Due.NO_ANSWER);
        }
        due.is("share(0, 0, 4)", x.share(0, 0, 4), Due.NO_ANSWER);
        int[] persons = {-1, 2, 12, Integer.MIN_VALUE, Integer.MAX_VALUE};
        for (int person : persons) {
            due.is("share(0, " + person + ", 0)", x.share(0, person, 0), Due.NO_ANSWER);
        }
        due.is("share(0, 1, 0) without days", x.share(0, 1, 0), 0);
        x.person(3);
        due.is("share(0, 2, 3) of a person that came later", x.share(0, 2, 3), 0);
        int[] nobody = {-1, 4, 99, 103, 112, Integer.MIN_VALUE, Integer.MAX_VALUE};
        for (int who : nobody) {
            due.is("carried(" + who + ")", x.carried(who), -1);
        }
    }
}
