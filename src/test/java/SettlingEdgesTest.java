/** The boundary cases of SETTLING, BY CENTS and promises 9 to 13: a cent less, just as much, a cent more. */
public final class SettlingEdgesTest {
    private static final int LOW = Integer.MIN_VALUE;
    private static final int HIGH = Integer.MAX_VALUE;
    private static final long BILLION = 1000000000L;
    private static final Due due = new Due();

    public static void main(String[] args) {
        leftIsNotBelowNone();
        lossBeforeComesOff();
        lossIsGoneWhenItIsBorne();
        lossIsThatOfItsShip();
        onlyCostsOffTheWholeMakeALoss();
        alikeAllGetTheSame();
        noCentLacksWhenSharesAreWhole();
        centsOfShipGearAndCrew();
        centsGoByWhatWasCut();
        centGoesToTheFirstOfThoseAlike();
        cutsThatDifferByLittle();
        percentsOfNoneGetNoCent();
        crewsCostsComeOffDownToNone();
        shipsCostsComeOffBelowNone();
        shipHasWhatNobodyCanHave();
        weightsAreTimesDays();
        leastPayIsWhatLacks();
        leastPayComesOffTheShipBelowNone();
        leastPayCountsEachDay();
        advanceComesOffAsFarAsItGoes();
        advanceComesOffLeastPayToo();
        advanceOfOneWithoutDaysStays();
        settleCounts();
        settleComesOnce();
        partAnswersSixQuestions();
        shareAnswersFourQuestions();
        shareIsNoneWithoutDays();
        carriedKnowsShipsAndPersons();
        sumsAreOfSettledTrips();
        answersStayBehindLaterCalls();
        due.end();
    }

    private static void parts(String run, CrewShares x, int trip, long... want) {
        for (int what = 0; what < want.length; what++) {
            due.is(run + ": part(" + trip + ", " + what + ")", x.part(trip, what), want[what]);
        }
        due.yes(run + ": sums(" + trip + ")", x.sums(trip));
    }

    private static void shares(String run, CrewShares x, int trip, int person, long... want) {
        for (int what = 0; what < want.length; what++) {
            due.is(run + ": share(" + trip + ", " + person + ", " + what + ")", x.share(trip, person, what), want[what]);
        }
    }

    /** What each of the persons of these roles has by its share, with so many days each, all on one trip. */
    private static void sharesOf(String rules, String roles, int[] days, long sales, long... want) {
        CrewShares x = Due.made(rules, roles);
        x.trip(0, sales);
        for (int p = 0; p < days.length; p++) {
            x.days(0, p, days[p]);
        }
        x.settle(0);
        for (int p = 0; p < want.length; p++) {
            shares(rules + ", sales " + sales, x, 0, p, want[p]);
        }
        due.yes(rules + ", sales " + sales + ": sums(0)", x.sums(0));
    }

    private static void partsOf(String rules, long sales, long... want) {
        CrewShares x = Due.made(rules, "0");
        x.trip(0, sales);
        x.days(0, 0, 1);
        x.settle(0);
        for (int what = 1; what <= want.length; what++) {
            due.is(rules + ", sales " + sales + ": part(0, " + what + ")", x.part(0, what), want[what - 1]);
        }
    }

    private static void leftIsNotBelowNone() {
        for (int ship = 0; ship < 4; ship++) {
            for (long off = -2; off <= 2; off++) {
                CrewShares x = new CrewShares();
                x.trip(ship, 100);
                x.cost(0, 0, 100 + off);
                x.settle(0);
                parts("costs 100 and " + off, x, 0, Math.max(-off, 0), Math.max(-off, 0), 0, Math.max(-off, 0), 0,
                    Math.max(off, 0));
                due.is("costs 100 and " + off + ": carried", x.carried(ship), Math.max(off, 0));
            }
        }
        CrewShares y = new CrewShares();
        y.trip(0, 0);
        y.settle(0);
        parts("no sales, no costs", y, 0, 0, 0, 0, 0, 0, 0);
        y.trip(0, 0);
        y.cost(1, 5, 1);
        y.settle(1);
        parts("no sales, a cost", y, 1, 0, 0, 0, 0, 0, 1);
    }

    private static void lossBeforeComesOff() {
        for (long off = -2; off <= 2; off++) {
            CrewShares x = Due.made("ship 100", "");
            x.trip(0, 50);
            x.cost(0, 0, 80);
            x.settle(0);
            x.trip(0, 130 + off);
            x.cost(1, 3, 100);
            x.settle(1);
            long left = Math.max(off, 0);
            long loss = Math.max(-off, 0);
            parts("loss 30 and sales less costs 30 and " + off, x, 1, left, left, 0, 0, 30, loss);
            due.is("carried(0)", x.carried(0), loss);
        }
    }

    private static void lossIsGoneWhenItIsBorne() {
        CrewShares x = Due.made("ship 100", "");
        long[] sales = {0, 4, 5, 7, 7};
        long[][] want = {{0, 0, 0, 0, 0, 10}, {0, 0, 0, 0, 10, 6}, {0, 0, 0, 0, 6, 1}, {6, 6, 0, 0, 1, 0}, {7, 7, 0, 0, 0, 0}};
        for (int t = 0; t < sales.length; t++) {
            x.trip(0, sales[t]);
        }
        x.cost(0, 0, 10);
        for (int t = 0; t < sales.length; t++) {
            x.settle(t);
            parts("a loss of 10 is borne", x, t, want[t]);
            due.is("a loss of 10 is borne: carried(0)", x.carried(0), want[t][5]);
        }
        x.trip(0, 0);
        x.cost(5, 0, 3);
        x.settle(5);
        parts("a new loss", x, 5, 0, 0, 0, 0, 0, 3);
    }

    private static void lossIsThatOfItsShip() {
        CrewShares x = Due.made("ship 100", "");
        for (int ship = 0; ship < 4; ship++) {
            x.trip(ship, 0);
            x.cost(ship, 0, 10 + ship);
        }
        for (int ship = 3; ship >= 0; ship--) {
            x.settle(ship);
            for (int s = 0; s < 4; s++) {
                due.is("carried(" + s + ") behind ship " + ship + "'s trip", x.carried(s), s >= ship ? 10 + s : 0);
            }
        }
        for (int ship = 0; ship < 4; ship++) {
            int t = x.trip(ship, 100);
            x.settle(t);
            parts("ship " + ship + "'s own loss", x, t, 90 - ship, 90 - ship, 0, 0, 10 + ship, 0);
        }
    }

    private static void onlyCostsOffTheWholeMakeALoss() {
        CrewShares x = Due.made("ship 50 cost 1 1 cost 2 2", "0");
        x.trip(0, 10);
        x.days(0, 0, 1);
        x.cost(0, 0, 10);
        x.cost(0, 1, 7);
        x.cost(0, 2, 9);
        x.settle(0);
        parts("nothing left", x, 0, 0, -16, 0, 0, 0, 0);
        due.is("carried(0)", x.carried(0), 0);
        x.trip(0, 10);
        x.days(1, 0, 1);
        x.settle(1);
        parts("a ship's part below 0 is not carried", x, 1, 10, 5, 0, 5, 0, 0);
    }

    private static void alikeAllGetTheSame() {
        for (int n = 1; n <= 12; n++) {
            for (int sales = 0; sales <= 2 * n + 1; sales++) {
                CrewShares x = Due.made("", "777777777777");
                x.trip(0, sales);
                for (int p = 12 - n; p < 12; p++) {
                    x.days(0, p, 3);
                }
                due.is("settle(0)", x.settle(0), n);
                for (int p = 0; p < 12; p++) {
                    int place = p - (12 - n);
                    long want = place < 0 ? 0 : sales / n + (place < sales % n ? 1 : 0);
                    due.is(sales + " cents to " + n + ": share(0, " + p + ", 0)", x.share(0, p, 0), want);
                }
            }
        }
    }

    private static void noCentLacksWhenSharesAreWhole() {
        sharesOf("role 1 2 role 2 3", "012", new int[] {1, 1, 1}, 6, 1, 2, 3);
        sharesOf("role 1 2 role 2 3", "012", new int[] {1, 1, 1}, 0, 0, 0, 0);
        sharesOf("role 1 2 role 2 3", "012", new int[] {1, 1, 1}, 6 * BILLION, BILLION, 2 * BILLION, 3 * BILLION);
        partsOf("ship 20 gear 30", 10, 2, 3, 5);
        partsOf("ship 20 gear 30", 0, 0, 0, 0);
        partsOf("ship 20 gear 30", 1000 * BILLION, 200 * BILLION, 300 * BILLION, 500 * BILLION);
    }

    private static void centsOfShipGearAndCrew() {
        // Exact shares of the first: 0.2, 0.3, 0.5.
        partsOf("ship 20 gear 30", 1, 0, 0, 1);
        partsOf("ship 20 gear 30", 2, 0, 1, 1);
        partsOf("ship 20 gear 30", 3, 1, 1, 1);
        partsOf("ship 20 gear 30", 4, 1, 1, 2);
        partsOf("ship 20 gear 30", 5, 1, 2, 2);
        partsOf("ship 20 gear 30", 6, 1, 2, 3);
        partsOf("ship 20 gear 30", 7, 1, 2, 4);
        partsOf("ship 20 gear 30", 8, 2, 2, 4);
        partsOf("ship 20 gear 30", 9, 2, 3, 4);
        partsOf("ship 33 gear 33", 1, 0, 0, 1);
        partsOf("ship 33 gear 33", 2, 1, 0, 1);
        partsOf("ship 34 gear 33", 1, 1, 0, 0);
        partsOf("ship 34 gear 33", 2, 1, 1, 0);
        partsOf("ship 33 gear 34", 1, 0, 1, 0);
        partsOf("ship 33 gear 34", 2, 1, 1, 0);
        partsOf("ship 1 gear 1", 49, 1, 0, 48);
        partsOf("ship 1 gear 1", 50, 1, 0, 49);
        partsOf("ship 1 gear 1", 51, 1, 0, 50);
        partsOf("ship 1 gear 1", 75, 1, 1, 73);
    }

    private static void centsGoByWhatWasCut() {
        // 10 by 1, 2, 4 of 7: 1.43, 2.86, 5.71; the cent of the first is missing, as it was cut by least.
        sharesOf("role 1 2 role 2 4", "012", new int[] {1, 1, 1}, 10, 1, 3, 6);
        sharesOf("role 1 2 role 2 4", "210", new int[] {1, 1, 1}, 10, 6, 3, 1);
        sharesOf("role 1 2 role 2 4", "102", new int[] {1, 1, 1}, 10, 3, 1, 6);
        // 1 by 1, 2, 4: the last was cut by most, though not the first.
        sharesOf("role 1 2 role 2 4", "012", new int[] {1, 1, 1}, 1, 0, 0, 1);
        // 5 by 1, 2, 4: 0.71, 1.43, 2.86.
        sharesOf("role 1 2 role 2 4", "012", new int[] {1, 1, 1}, 5, 1, 1, 3);
        // What was cut counts, not the share: 9 by 1 and 9 is 0.9 and 8.1.
        sharesOf("role 1 9", "10", new int[] {1, 1}, 9, 8, 1);
    }

    private static void centGoesToTheFirstOfThoseAlike() {
        sharesOf("", "00", new int[] {1, 1}, 1, 1, 0);
        sharesOf("role 1 3", "01", new int[] {1, 1}, 2, 1, 1);
        sharesOf("role 1 3", "10", new int[] {1, 1}, 2, 2, 0);
        // 2 by 3, 1, 1, 3 of 8: 0.75, 0.25, 0.25, 0.75.
        sharesOf("role 1 3", "1001", new int[] {1, 1, 1, 1}, 2, 1, 0, 0, 1);
        // 4 by the same: 1.5, 0.5, 0.5, 1.5: the first two of four alike.
        sharesOf("role 1 3", "1001", new int[] {1, 1, 1, 1}, 4, 2, 1, 0, 1);
        sharesOf("role 1 3", "0110", new int[] {1, 1, 1, 1}, 4, 1, 2, 1, 0);
        partsOf("ship 50", 1, 1, 0, 0);
        partsOf("gear 50", 1, 0, 1, 0);
        partsOf("ship 50 gear 50", 1, 1, 0, 0);
        partsOf("ship 25 gear 50", 2, 1, 1, 0);
    }

    private static void cutsThatDifferByLittle() {
        // By 400000 and 397803: what was cut differs by one part in 797803, which a double does not tell.
        sharesOf("role 1 1000 role 2 997", "12", new int[] {400, 399}, 999999730551L, 501376771233L, 498622959318L);
        sharesOf("role 1 1000 role 2 997", "12", new int[] {400, 399}, 999999845301L, 501376828767L, 498623016534L);
        sharesOf("role 1 1000 role 2 997", "21", new int[] {399, 400}, 999999730551L, 498622959318L, 501376771233L);
        sharesOf("role 1 1000 role 2 997", "21", new int[] {399, 400}, 999999845301L, 498623016534L, 501376828767L);
        sharesOf("", "00", new int[] {399, 400}, 1, 0, 1);
        sharesOf("", "00", new int[] {400, 399}, 1, 1, 0);
    }

    private static void percentsOfNoneGetNoCent() {
        for (long sales = 0; sales <= 7; sales++) {
            partsOf("", sales, 0, 0, sales);
            partsOf("ship 100", sales, sales, 0, 0);
            partsOf("gear 100", sales, 0, sales, 0);
            partsOf("gear 50", sales, 0, (sales + 1) / 2, sales / 2);
            partsOf("ship 50", sales, (sales + 1) / 2, 0, sales / 2);
            sharesOf("role 1 0", "10101", new int[] {1, 1, 1, 1, 400}, sales, 0, (sales + 1) / 2, 0, sales / 2, 0);
            sharesOf("", "00000", new int[] {0, 1, 0, 1, 0}, sales, 0, (sales + 1) / 2, 0, sales / 2, 0);
        }
    }

    private static void crewsCostsComeOffDownToNone() {
        for (long off = -2; off <= 2; off++) {
            CrewShares x = Due.made("ship 30 gear 20 cost 4 1", "0");
            x.trip(0, 100);
            x.days(0, 0, 1);
            x.cost(0, 4, 50 + off);
            x.settle(0);
            String run = "crew's part 50, costs 50 and " + off;
            parts(run, x, 0, 100, 30 - Math.max(off, 0), 20, Math.max(-off, 0), 0, 0);
            shares(run, x, 0, 0, Math.max(-off, 0), 0, 0, Math.max(-off, 0));
        }
        CrewShares y = Due.made("ship 30 gear 20 cost 4 1 cost 5 1", "0");
        y.trip(0, 100);
        y.days(0, 0, 1);
        y.cost(0, 4, 30);
        y.cost(0, 5, 21);
        y.settle(0);
        parts("all costs off the crew's part, together", y, 0, 100, 29, 20, 0, 0, 0);
        CrewShares z = Due.made("ship 100 cost 4 1", "0");
        z.trip(0, 10);
        z.days(0, 0, 1);
        z.cost(0, 4, 11);
        z.settle(0);
        parts("no crew's part", z, 0, 10, -1, 0, 0, 0, 0);
    }

    private static void shipsCostsComeOffBelowNone() {
        for (long off = -2; off <= 2; off++) {
            CrewShares x = Due.made("ship 30 gear 20 cost 4 2", "0");
            x.trip(0, 100);
            x.days(0, 0, 1);
            x.cost(0, 4, 30 + off);
            x.settle(0);
            parts("ship's part 30, costs 30 and " + off, x, 0, 100, -off, 20, 50, 0, 0);
            due.is("ship's part 30, costs 30 and " + off + ": carried(0)", x.carried(0), 0);
        }
        CrewShares y = Due.made("ship 30 gear 20 cost 4 2 cost 5 1 cost 6 2", "0");
        y.trip(0, 100);
        y.days(0, 0, 1);
        y.cost(0, 4, 20);
        y.cost(0, 5, 55);
        y.cost(0, 6, 6);
        y.settle(0);
        parts("ship's costs and what the crew's are more", y, 0, 100, -1, 20, 0, 0, 0);
    }

    private static void shipHasWhatNobodyCanHave() {
        CrewShares x = Due.made("ship 10 gear 20 role 1 0", "10");
        for (int t = 0; t < 4; t++) {
            x.trip(0, 100);
        }
        x.days(1, 0, 400);
        x.days(2, 0, 400);
        x.days(2, 1, 1);
        x.days(3, 1, 1);
        x.days(3, 1, 0);
        int[] aboard = {0, 1, 2, 0};
        for (int t = 0; t < 4; t++) {
            due.is("settle(" + t + ")", x.settle(t), aboard[t]);
        }
        parts("nobody aboard", x, 0, 100, 80, 20, 70, 0, 0);
        parts("only weights of 0", x, 1, 100, 80, 20, 70, 0, 0);
        shares("only weights of 0", x, 1, 0, 0, 0, 0, 0);
        parts("one weight above 0", x, 2, 100, 10, 20, 70, 0, 0);
        shares("a weight of 0", x, 2, 0, 0, 0, 0, 0);
        shares("the only weight above 0", x, 2, 1, 70, 0, 0, 70);
        parts("days that became 0", x, 3, 100, 80, 20, 70, 0, 0);
        CrewShares y = Due.made("ship 10", "");
        y.trip(0, 100);
        due.is("settle(0) without persons", y.settle(0), 0);
        parts("no persons at all", y, 0, 100, 100, 0, 90, 0, 0);
    }

    private static void weightsAreTimesDays() {
        sharesOf("", "00", new int[] {1, 400}, 401, 1, 400);
        sharesOf("role 1 1000", "01", new int[] {400, 1}, 1400, 400, 1000);
        sharesOf("role 1 1000", "01", new int[] {1, 400}, 400001, 1, 400000);
        sharesOf("role 1 7 role 2 5", "12", new int[] {5, 7}, 70, 35, 35);
        sharesOf("role 1 1000 role 2 1000", "121212121212", new int[] {400, 400, 400, 400, 400, 400, 400, 400, 400, 400,
            400, 400}, 12, 1, 1, 1, 1, 1, 1, 1, 1, 1, 1, 1, 1);
    }

    private static void leastPayIsWhatLacks() {
        for (int least = 48; least <= 52; least++) {
            CrewShares x = Due.made("ship 50 least 3 " + least, "3");
            x.trip(0, 400);
            x.days(0, 0, 4);
            x.settle(0);
            long lacking = Math.max(4 * least - 200, 0);
            shares("share 200, least " + least + " on 4 days", x, 0, 0, 200, lacking, 0, 200 + lacking);
            parts("share 200, least " + least + " on 4 days", x, 0, 400, 200 - lacking, 0, 200, 0, 0);
        }
        for (long sales = 99; sales <= 101; sales++) {
            CrewShares x = Due.made("least 3 25", "3");
            x.trip(0, sales);
            x.days(0, 0, 4);
            x.settle(0);
            shares("share " + sales + ", least pay 100", x, 0, 0, sales, sales == 99 ? 1 : 0, 0, Math.max(sales, 100));
        }
    }

    private static void leastPayComesOffTheShipBelowNone() {
        for (int least = 29; least <= 31; least++) {
            CrewShares x = Due.made("ship 30 gear 70 least 0 " + least, "0");
            x.trip(0, 100);
            x.days(0, 0, 1);
            x.settle(0);
            parts("ship's part 30, least " + least, x, 0, 100, 30 - least, 70, 0, 0, 0);
            due.is("a part below 0 is no loss: carried(0)", x.carried(0), 0);
        }
        CrewShares y = Due.made("least 0 999999 least 1 999999", "010101010101");
        y.trip(0, 0);
        for (int p = 0; p < 12; p++) {
            y.days(0, p, 400);
        }
        y.settle(0);
        parts("the most that the ship can pay", y, 0, 0, -12 * 399999600L, 0, 0, 0, 0);
        CrewShares z = Due.made("least 0 10", "00");
        z.trip(0, 0);
        z.cost(0, 0, 5);
        z.days(0, 1, 2);
        z.settle(0);
        parts("a loss and a least pay", z, 0, 0, -20, 0, 0, 0, 5);
        shares("a loss and a least pay", z, 0, 1, 0, 20, 0, 20);
    }

    private static void leastPayCountsEachDay() {
        for (int days : new int[] {0, 1, 2, 399, 400}) {
            CrewShares x = Due.made("ship 100 least 5 7 least 6 9", "56");
            x.trip(0, 0);
            x.days(0, 0, days);
            x.days(0, 1, 1);
            x.settle(0);
            shares("least 7 on " + days + " days", x, 0, 0, 0, 7 * days, 0, 7 * days);
            shares("least 9 on a day", x, 0, 1, 0, 9, 0, 9);
            parts("least 7 on " + days + " days", x, 0, 0, -7 * days - 9, 0, 0, 0, 0);
        }
    }

    private static void advanceComesOffAsFarAsItGoes() {
        for (long off = -2; off <= 2; off++) {
            CrewShares x = Due.made("", "00");
            x.trip(0, 200);
            x.days(0, 0, 1);
            x.days(0, 1, 1);
            x.advance(0, 100 + off);
            x.advance(1, 1);
            x.settle(0);
            long taken = Math.min(100, 100 + off);
            shares("has 100, ADVANCE 100 and " + off, x, 0, 0, 100, 0, taken, 100 - taken);
            due.is("has 100, ADVANCE 100 and " + off + ": carried(100)", x.carried(100), 100 + off - taken);
            shares("ADVANCE 1", x, 0, 1, 100, 0, 1, 99);
            due.is("ADVANCE 1: carried(101)", x.carried(101), 0);
            due.yes("sums(0)", x.sums(0));
        }
        CrewShares y = Due.made("ship 100", "0");
        y.trip(0, 200);
        y.days(0, 0, 1);
        y.advance(0, BILLION);
        y.settle(0);
        shares("has nothing", y, 0, 0, 0, 0, 0, 0);
        due.is("has nothing: carried(100)", y.carried(100), BILLION);
    }

    private static void advanceComesOffLeastPayToo() {
        for (long off = -1; off <= 1; off++) {
            CrewShares x = Due.made("least 0 30", "0");
            x.trip(0, 20);
            x.days(0, 0, 1);
            x.advance(0, 30 + off);
            x.settle(0);
            long taken = Math.min(30, 30 + off);
            shares("has 20 and 10, ADVANCE 30 and " + off, x, 0, 0, 20, 10, taken, 30 - taken);
            due.is("has 20 and 10, ADVANCE 30 and " + off + ": carried(100)", x.carried(100), 30 + off - taken);
            parts("has 20 and 10, ADVANCE 30 and " + off, x, 0, 20, -10, 0, 20, 0, 0);
        }
    }

    private static void advanceOfOneWithoutDaysStays() {
        CrewShares x = Due.made("least 0 30", "00");
        x.trip(0, 100);
        x.advance(0, 5);
        x.advance(1, 6);
        x.days(0, 1, 1);
        x.settle(0);
        shares("without days", x, 0, 0, 0, 0, 0, 0);
        due.is("without days: carried(100)", x.carried(100), 5);
        shares("with a day", x, 0, 1, 100, 0, 6, 94);
        x.trip(0, 100);
        x.days(1, 0, 1);
        x.advance(0, 1);
        x.settle(1);
        shares("on the next trip", x, 1, 0, 100, 0, 6, 94);
    }

    private static void settleCounts() {
        for (int n = 0; n <= 12; n++) {
            CrewShares x = Due.made("role 1 0", "010101010101");
            x.trip(0, 5);
            for (int p = 0; p < n; p++) {
                x.days(0, 11 - p, p % 2 == 0 ? 1 : 400);
            }
            due.is("settle(0) with " + n + " aboard", x.settle(0), n);
        }
    }

    private static void settleComesOnce() {
        CrewShares x = Due.made("", "0");
        for (int t : new int[] {LOW, -1, 0, 1, 19, 20, HIGH}) {
            due.is("settle(" + t + ") without trips", x.settle(t), -1);
        }
        for (int t = 0; t < 20; t++) {
            x.trip(1, 10);
            x.cost(t, 0, 11);
            x.advance(0, 1);
            due.is("settle(" + (t + 1) + "), no such trip", x.settle(t + 1), -1);
            due.is("settle(" + t + ")", x.settle(t), 0);
            due.is("settle(" + t + ") again", x.settle(t), -1);
            due.is("settle(0) again", x.settle(0), -1);
            due.is("once each: carried(1)", x.carried(1), t + 1);
            due.is("once each: carried(100)", x.carried(100), t + 1);
        }
    }

    private static void partAnswersSixQuestions() {
        CrewShares x = Due.made("ship 20 gear 30", "0");
        x.trip(0, 0);
        x.cost(0, 0, 5);
        x.settle(0);
        x.trip(0, 25);
        x.days(1, 0, 1);
        for (int what = -1; what <= 6; what++) {
            due.is("part(1, " + what + ") before it is settled", x.part(1, what), Due.NO_ANSWER);
            due.is("part(2, " + what + ")", x.part(2, what), Due.NO_ANSWER);
        }
        x.settle(1);
        parts("six questions", x, 0, 0, 0, 0, 0, 0, 5);
        parts("six questions", x, 1, 20, 4, 6, 10, 5, 0);
        for (int what : new int[] {LOW, -1, 6, 7, HIGH}) {
            due.is("part(1, " + what + ")", x.part(1, what), Due.NO_ANSWER);
        }
        for (int t : new int[] {LOW, -1, 2, 20, HIGH}) {
            for (int what = 0; what < 6; what++) {
                due.is("part(" + t + ", " + what + ")", x.part(t, what), Due.NO_ANSWER);
            }
        }
    }

    private static void shareAnswersFourQuestions() {
        CrewShares x = Due.made("least 0 30", "000");
        x.trip(0, 40);
        x.days(0, 0, 1);
        x.days(0, 2, 1);
        x.advance(2, 7);
        for (int i = 0; i < 16; i++) {
            due.is("share before it is settled", x.share(0, i / 4, i % 4), Due.NO_ANSWER);
        }
        x.settle(0);
        shares("four questions", x, 0, 0, 20, 10, 0, 30);
        shares("four questions", x, 0, 1, 0, 0, 0, 0);
        shares("four questions", x, 0, 2, 20, 10, 7, 23);
        for (int p = 0; p < 3; p++) {
            for (int what : new int[] {LOW, -1, 4, 5, HIGH}) {
                due.is("share(0, " + p + ", " + what + ")", x.share(0, p, what), Due.NO_ANSWER);
            }
        }
        for (int what = 0; what < 4; what++) {
            for (int p : new int[] {LOW, -1, 3, 11, 12, 100, HIGH}) {
                due.is("share(0, " + p + ", " + what + ")", x.share(0, p, what), Due.NO_ANSWER);
            }
            for (int t : new int[] {LOW, -1, 1, 19, 20, HIGH}) {
                due.is("share(" + t + ", 0, " + what + ")", x.share(t, 0, what), Due.NO_ANSWER);
            }
        }
    }

    private static void shareIsNoneWithoutDays() {
        CrewShares x = Due.made("least 0 30", "0");
        x.trip(0, 40);
        x.settle(0);
        shares("without days", x, 0, 0, 0, 0, 0, 0);
        for (int p = 1; p < 12; p++) {
            due.is("share(0, " + p + ", 0), no such person", x.share(0, p, 0), Due.NO_ANSWER);
            x.person(0);
            shares("a person that came behind the settling", x, 0, p, 0, 0, 0, 0);
        }
    }

    private static void carriedKnowsShipsAndPersons() {
        CrewShares x = new CrewShares();
        for (int persons = 0; persons <= 12; persons++) {
            for (int who : new int[] {LOW, -2, -1, 4, 5, 12, 99, 100 + persons, 112, 113, 200, HIGH}) {
                due.is("carried(" + who + ") with " + persons + " persons", x.carried(who), -1);
            }
            for (int ship = 0; ship < 4; ship++) {
                due.is("carried(" + ship + ")", x.carried(ship), 0);
            }
            if (persons > 0) {
                due.is("carried of the last of " + persons, x.carried(99 + persons), 0);
                x.advance(persons - 1, persons);
                due.is("carried of the last of " + persons, x.carried(99 + persons), persons);
                due.is("carried(100)", x.carried(100), 1);
            }
            x.person(persons % 10);
        }
    }

    private static void sumsAreOfSettledTrips() {
        CrewShares x = Due.made("ship 33 gear 33 cost 1 1 cost 2 2 least 0 40", "01");
        for (int t : new int[] {LOW, -1, 0, 19, 20, HIGH}) {
            due.no("sums(" + t + ") without trips", x.sums(t));
        }
        for (int t = 0; t < 20; t++) {
            x.trip(0, 11 * t);
            x.cost(t, t % 4, 37);
            x.days(t, t % 2, t);
            x.advance(t % 2, 3);
            due.no("sums(" + t + ") before it is settled", x.sums(t));
            x.settle(t);
            due.yes("sums(" + t + ")", x.sums(t));
            due.no("sums(" + (t + 1) + ")", x.sums(t + 1));
        }
        for (int t = 0; t < 20; t++) {
            due.yes("sums(" + t + ") in the end", x.sums(t));
        }
    }

    private static void answersStayBehindLaterCalls() {
        CrewShares x = Due.made("ship 50 least 0 30", "00");
        x.trip(0, 100);
        x.days(0, 0, 2);
        x.advance(0, 70);
        x.settle(0);
        Due.read(x, "gear 90 least 0 999 role 0 0");
        x.trip(0, 0);
        x.cost(1, 0, 500);
        x.days(1, 0, 1);
        x.advance(0, 20);
        x.settle(1);
        x.person(1);
        parts("the first trip stays as it was", x, 0, 100, 40, 0, 50, 0, 0);
        shares("the first trip stays as it was", x, 0, 0, 50, 10, 60, 0);
        parts("the second trip", x, 1, 0, -999, 0, 0, 0, 500);
        shares("the second trip", x, 1, 0, 0, 999, 30, 969);
    }
}
