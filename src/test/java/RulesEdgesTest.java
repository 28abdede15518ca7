import java.util.Arrays;

/** The boundary cases of RULES and of promises 2 and 3: bytes, words, numbers, their bounds, and missing words. */
public final class RulesEdgesTest {
    private static final String ALL_RULES = "ship 20 gear 30 cost 0 2 role 0 0 least 0 99";
    private static final String[] WORDS = "cost 0 2 ship 30 role 1 1000 gear 70 least 9 999999 role 0 0".split(" ");
    private static final Due due = new Due();

    public static void main(String[] args) {
        unitTakesEveryByte();
        textTakesAllBytesOfItsCalls();
        textHoldsSixHundredBytes();
        onlyTwoBytesPartWords();
        onlyTenBytesAreDigits();
        numbersHaveOneToSixDigits();
        percentsGoFromNoneToAll();
        percentsTogetherAreAtMostHundred();
        percentsComeOnce();
        percentsAreNoneWithoutSentences();
        costsHaveTenKindsAndThreePlaces();
        costsOfKindsWithoutSentenceComeOffTheWhole();
        weightsGoToThousand();
        weightIsOneWithoutSentence();
        leastsGoToSixNines();
        leastIsNoneWithoutSentence();
        lastOfTheSameTwoWordsCounts();
        otherSecondWordsAreOtherSentences();
        sentencesAreCounted();
        everyCutOfATextNamesItsPlace();
        everyWrongWordIsNamed();
        firstOfTwoWrongWordsIsNamed();
        wordsOfOtherSpellingAreWrong();
        readLeavesNoText();
        emptyTextIsRulesToo();
        newTextForgetsEachRule();
        wrongTextLeavesEachRule();
        due.end();
    }

    private static void reads(String text, int want) {
        due.is("read() of \"" + text + "\"", Due.read(new CrewShares(), text), want);
    }

    private static boolean isGap(int b) {
        return b == 32 || b == 10;
    }

    private static boolean isDigit(int b) {
        return b >= '0' && b <= '9';
    }

    private static void unitTakesEveryByte() {
        CrewShares x = new CrewShares();
        for (int u = 0; u < 256; u++) {
            due.yes("unit(" + u + ")", x.unit(u));
        }
        for (int u : new int[] {-1, 256, -256, 512, 's' + 256, 's' - 256, Integer.MIN_VALUE, Integer.MAX_VALUE}) {
            due.no("unit(" + u + ")", x.unit(u));
        }
    }

    /** An object has 512 calls, so a text that is read within them has 511 bytes at most. */
    private static void textTakesAllBytesOfItsCalls() {
        CrewShares x = new CrewShares();
        Due.write(x, " ".repeat(503));
        Due.write(x, "cost 9 2");
        due.is("read() of 503 gaps and a sentence", x.read(), 1);
        CrewShares y = new CrewShares();
        Due.write(y, "cost 9 2");
        Due.write(y, "\n".repeat(501));
        Due.write(y, "x ");
        due.is("read() of a sentence, 501 gaps and a wrong word", y.read(), -4);
    }

    /** Over the 512 calls; this program answers there as before them. */
    private static void textHoldsSixHundredBytes() {
        CrewShares x = new CrewShares();
        Due.write(x, " ".repeat(594));
        Due.write(x, "ship 1");
        due.no("unit('0'), the 601st", x.unit('0'));
        due.no("unit(-1), the 601st", x.unit(-1));
        due.is("read() of 600 bytes", x.read(), 1);
        x.trip(0, 100);
        x.settle(0);
        due.is("the 601st byte is not there: part(0, 1)", x.part(0, 1), 100);
        due.is("the 601st byte is not there: part(0, 3)", x.part(0, 3), 99);
        due.yes("unit('s') behind read()", x.unit('s'));
    }

    private static void onlyTwoBytesPartWords() {
        for (int b = 0; b < 256; b++) {
            char c = (char) b;
            reads("ship" + c + "5", isGap(b) ? 1 : -1);
            reads(c + "ship 5", isGap(b) ? 1 : -1);
            reads("ship 5" + c, isGap(b) || isDigit(b) ? 1 : -2);
            reads("ship 5" + c + "gear 6", isGap(b) ? 2 : -2);
            reads("" + c, isGap(b) ? 0 : -1);
            reads("role " + c + " 5", isGap(b) ? -3 : isDigit(b) ? 1 : -2);
        }
        reads(" \n\n ship \n 5 \n\n gear  6\n\n", 2);
    }

    private static void onlyTenBytesAreDigits() {
        for (int b = 0; b < 256; b++) {
            char c = (char) b;
            reads("least 1 " + c, isDigit(b) ? 1 : -3);
            for (int at = 0; at < 6; at++) {
                String number = "111111".substring(0, at) + c + "111111".substring(at + 1);
                boolean gapInside = isGap(b) && at > 0 && at < 5;
                reads("least 1 " + number, gapInside ? -4 : isDigit(b) || isGap(b) ? 1 : -3);
            }
        }
        for (int digit = 0; digit <= 9; digit++) {
            due.is("least 0 " + digit + ": pay of a day", leastPay("least 0 " + digit, "0", 1), digit);
        }
        due.is("least 0 123456: pay of a day", leastPay("least 0 123456", "0", 1), 123456);
        due.is("least 0 987650: pay of a day", leastPay("least 0 987650", "0", 1), 987650);
    }

    /** What the ship adds for the only person on a trip without sales. */
    private static long leastPay(String rules, String role, int days) {
        CrewShares x = Due.made(rules, role);
        x.trip(0, 0);
        x.days(0, 0, days);
        x.settle(0);
        return x.share(0, 0, 1);
    }

    private static void numbersHaveOneToSixDigits() {
        for (int digits = 1; digits <= 10; digits++) {
            String zeros = "0".repeat(digits);
            reads("ship " + zeros, digits <= 6 ? 1 : -2);
            reads("gear " + zeros, digits <= 6 ? 1 : -2);
            reads("cost " + zeros + " 0", digits <= 6 ? 1 : -2);
            reads("cost 0 " + zeros, digits <= 6 ? 1 : -3);
            reads("role " + zeros + " 0", digits <= 6 ? 1 : -2);
            reads("role 0 " + zeros, digits <= 6 ? 1 : -3);
            reads("least " + zeros + " 0", digits <= 6 ? 1 : -2);
            reads("least 0 " + zeros, digits <= 6 ? 1 : -3);
            reads("least 0 " + "9".repeat(digits), digits <= 6 ? 1 : -3);
        }
        // Rests of these, cut to an int or a long, would be right numbers.
        reads("ship 4294967300", -2);
        reads("ship 18446744073709551620", -2);
        reads("least 0 " + "0".repeat(300) + "1", -3);
    }

    private static void percentsGoFromNoneToAll() {
        for (int n = 0; n <= 120; n++) {
            reads("ship " + n, n <= 100 ? 1 : -2);
            reads("gear " + n, n <= 100 ? 1 : -2);
        }
        for (int n = 0; n <= 100; n++) {
            partsOfHundred("ship " + n, n, 0, 100 - n);
            partsOfHundred("gear " + n, 0, n, 100 - n);
        }
    }

    /** Of 100 cents each part has its percents; a person is there, so that the ship doesn't have the crew's part. */
    private static void partsOfHundred(String rules, long ship, long gear, long crew) {
        CrewShares x = Due.made(rules, "0");
        x.trip(0, 100);
        x.days(0, 0, 1);
        x.settle(0);
        due.is(rules + ": the ship's part of 100", x.part(0, 1), ship);
        due.is(rules + ": the gear's part of 100", x.part(0, 2), gear);
        due.is(rules + ": the crew's part of 100", x.part(0, 3), crew);
    }

    private static void percentsTogetherAreAtMostHundred() {
        for (int n = 0; n <= 100; n++) {
            int rest = 100 - n;
            reads("ship " + n + " gear " + (rest + 1), -4);
            reads("gear " + n + " ship " + (rest + 1), -4);
            partsOfHundred("ship " + n + " gear " + rest, n, rest, 0);
            partsOfHundred("gear " + n + " ship " + rest, rest, n, 0);
        }
        partsOfHundred("ship 49 gear 50", 49, 50, 1);
        reads("ship 100 gear 100", -4);
        reads("ship 51 cost 1 1 role 2 2 gear 50", -10);
        reads("gear 51 cost 1 1 role 2 2 ship 50", -10);
        // The bound is that of one text: what the rules before gave does not count.
        CrewShares x = Due.made("ship 100", "");
        due.is("gear 100 behind ship 100 of an earlier text: read()", Due.read(x, "gear 100"), 1);
        due.is("ship 100 behind ship 60 gear 41: read()", Due.read(x, "ship 60 gear 41"), -4);
        due.is("gear 100 behind a wrong text with ship 60: read()", Due.read(x, "gear 100"), 1);
    }

    private static void percentsComeOnce() {
        for (String one : new String[] {"ship", "gear"}) {
            String other = one.equals("ship") ? "gear" : "ship";
            reads(one + " 0 " + one + " 0", -3);
            reads(one + " 1 " + one + " 1", -3);
            reads(one + " 1 " + one, -3);
            reads(one + " 1 " + one + " x", -3);
            reads(one + " 1 " + other + " 1 " + one + " 1", -5);
            reads(one + " 1 cost 1 1 role 1 1 least 1 1 " + one + " 1", -12);
            CrewShares x = Due.made(one + " 7", "");
            due.is(one + " in the next text: read()", Due.read(x, one + " 7"), 1);
            due.is(one + " twice: read()", Due.read(x, one + " 7 " + one + " 7"), -3);
            due.is(one + " behind a wrong text: read()", Due.read(x, one + " 7"), 1);
        }
    }

    private static void percentsAreNoneWithoutSentences() {
        partsOfHundred("", 0, 0, 100);
        partsOfHundred("role 1 5 cost 1 1 least 1 1", 0, 0, 100);
        partsOfHundred("ship 0 gear 0", 0, 0, 100);
    }

    /** Sales 1000, half for the ship; a cost of 8 shows where its kind comes off. */
    private static void costComesOff(String rules, int kind, int place) {
        CrewShares x = Due.made("ship 50 " + rules, "0");
        x.trip(0, 1000);
        x.days(0, 0, 1);
        x.cost(0, kind, 8);
        x.settle(0);
        String run = rules + ", cost of kind " + kind;
        due.is(run + ": LEFT", x.part(0, 0), place == 0 ? 992 : 1000);
        due.is(run + ": the ship's part", x.part(0, 1), place == 0 ? 496 : place == 1 ? 500 : 492);
        due.is(run + ": the crew's part", x.part(0, 3), place == 0 ? 496 : place == 1 ? 492 : 500);
        due.yes(run + ": sums", x.sums(0));
    }

    private static void costsHaveTenKindsAndThreePlaces() {
        for (int kind = 0; kind <= 9; kind++) {
            for (int place = 0; place <= 2; place++) {
                String rules = "cost " + kind + " " + place;
                reads(rules, 1);
                for (int other = 0; other <= 9; other++) {
                    costComesOff(rules, other, other == kind ? place : 0);
                }
            }
            reads("cost " + kind + " 3", -3);
            reads("cost " + kind + " 10", -3);
            reads("cost " + kind + " 999999", -3);
        }
        reads("cost 10 0", -2);
        reads("cost 11 0", -2);
        reads("cost 999999 0", -2);
    }

    private static void costsOfKindsWithoutSentenceComeOffTheWhole() {
        for (int kind = 0; kind <= 9; kind++) {
            costComesOff("", kind, 0);
        }
    }

    /** What a person of the role gets of so many cents beside one whose role has the weight 1. */
    private static long beside(String rules, int role, int other, long sales) {
        CrewShares x = Due.made(rules, "" + role + other);
        x.trip(0, sales);
        x.days(0, 0, 1);
        x.days(0, 1, 1);
        x.settle(0);
        return x.share(0, 0, 0);
    }

    private static void weightsGoToThousand() {
        for (int role = 0; role <= 9; role++) {
            int other = (role + 1) % 10;
            due.is("weight 0", beside("role " + role + " 0", role, other, 1001), 0);
            due.is("weight 1", beside("role " + role + " 1", role, other, 1000), 500);
            due.is("weight 999", beside("role " + role + " 999", role, other, 1000), 999);
            due.is("weight 1000", beside("role " + role + " 1000", role, other, 1001), 1000);
            due.is("weight 1000 of the other", beside("role " + role + " 1000", other, role, 1001), 1);
            reads("role " + role + " 1001", -3);
            reads("role " + role + " 999999", -3);
        }
        reads("role 10 1", -2);
        reads("role 11 1", -2);
        reads("role 999999 1", -2);
    }

    private static void weightIsOneWithoutSentence() {
        for (int role = 0; role <= 9; role++) {
            int other = (role + 3) % 10;
            due.is("role " + role + " without a sentence", beside("role " + other + " 4", role, other, 1000), 200);
            due.is("role " + role + " without rules", beside("", role, other, 1000), 500);
        }
    }

    private static void leastsGoToSixNines() {
        for (int role = 0; role <= 9; role++) {
            due.is("least 0", leastPay("least " + role + " 0", "" + role, 400), 0);
            due.is("least 1", leastPay("least " + role + " 1", "" + role, 400), 400);
            due.is("least 999999", leastPay("least " + role + " 999999", "" + role, 1), 999999);
            due.is("least 999999, 400 days", leastPay("least " + role + " 999999", "" + role, 400), 399999600L);
            due.is("least of another role", leastPay("least " + role + " 999999", "" + (role + 1) % 10, 400), 0);
            reads("least " + role + " 1000000", -3);
        }
        reads("least 10 1", -2);
        reads("least 11 1", -2);
        reads("least 999999 1", -2);
    }

    private static void leastIsNoneWithoutSentence() {
        for (int role = 0; role <= 9; role++) {
            due.is("role " + role + " without a least", leastPay("role " + role + " 5", "" + role, 400), 0);
        }
    }

    private static void lastOfTheSameTwoWordsCounts() {
        for (int k = 0; k <= 9; k++) {
            costComesOff("cost " + k + " 1 cost " + k + " 2", k, 2);
            costComesOff("cost " + k + " 2 cost " + k + " 1 role 1 1", k, 1);
            costComesOff("cost " + k + " 1 cost " + k + " 2 cost " + k + " 0", k, 0);
            String role = "role " + k + " ";
            due.is("the last weight", beside(role + "5 " + role + "1000 " + role + "3", k, (k + 1) % 10, 1000), 750);
            due.is("a last weight of 0", beside(role + "5 " + role + "0", k, (k + 1) % 10, 1000), 0);
            String least = "least " + k + " ";
            due.is("the last least", leastPay(least + "5 " + least + "900 " + least + "3", "" + k, 1), 3);
            due.is("a last least of 0", leastPay(least + "5 " + least + "0", "" + k, 1), 0);
        }
        reads("cost 1 1 cost 1 1 role 1 1 role 1 1 least 1 1 least 1 1", 6);
    }

    private static void otherSecondWordsAreOtherSentences() {
        String rules = "role 4 3 least 4 70 cost 4 1 role 5 1 least 5 2 cost 5 2";
        due.is("role 4 stays", beside(rules, 4, 5, 1000), 750);
        due.is("least 4 stays", leastPay(rules, "4", 1), 70);
        due.is("least 5", leastPay(rules, "5", 1), 2);
        costComesOff(rules, 4, 1);
        costComesOff(rules, 5, 2);
    }

    private static void sentencesAreCounted() {
        String[] one = {"ship 1", "gear 1", "cost 1 1", "role 1 1", "least 1 1"};
        for (String sentence : one) {
            reads(sentence, 1);
            reads(sentence + " least 0 0", 2);
        }
        for (int n = 0; n <= 56; n++) {
            reads("cost 1 1 ".repeat(n), n);
        }
        reads("ship 1 gear 1 cost 1 1 role 1 1 least 1 1", 5);
    }

    private static String firstWords(int count) {
        return String.join(" ", Arrays.copyOf(WORDS, count));
    }

    /** How many sentences the first so many words are, or -1 if the last one is not whole. */
    private static int wholeSentences(int count) {
        int sentences = 0;
        int at = 0;
        while (at < count) {
            at += WORDS[at].equals("ship") || WORDS[at].equals("gear") ? 2 : 3;
            sentences++;
        }
        return at == count ? sentences : -1;
    }

    private static void everyCutOfATextNamesItsPlace() {
        for (int count = 0; count <= WORDS.length; count++) {
            int whole = wholeSentences(count);
            int want = whole >= 0 ? whole : -1 - count;
            reads(firstWords(count), want);
            reads(firstWords(count) + " \n", want);
            reads("\n  " + firstWords(count), want);
        }
    }

    private static void everyWrongWordIsNamed() {
        String[] wrong = {"x", "ships", "1000000", "-1", "+1", "1a", "a1", "1.0", "\t", "\r", "cost\t1"};
        for (int count = 0; count < WORDS.length; count++) {
            for (String word : wrong) {
                reads(firstWords(count) + " " + word, -1 - count);
                reads(firstWords(count) + " " + word + " x", -1 - count);
                reads(firstWords(count) + "\n" + word + " ship 1", -1 - count);
            }
            boolean numberStands = wholeSentences(count) < 0;
            if (numberStands) {
                reads(firstWords(count) + " cost", -1 - count);
                reads(firstWords(count) + " ship 1", -1 - count);
            } else {
                reads(firstWords(count) + " 0", -1 - count);
                reads(firstWords(count) + " 999999", -1 - count);
            }
        }
    }

    private static void firstOfTwoWrongWordsIsNamed() {
        reads("x y", -1);
        reads("ship 101 gear 101", -2);
        reads("cost 10 3", -2);
        reads("role 10 1001", -2);
        reads("least 10 1000000", -2);
        reads("cost x", -2);
        reads("ship 1 ship 101", -3);
        reads("ship 60 gear 41 ship 1", -4);
    }

    private static void wordsOfOtherSpellingAreWrong() {
        for (String word : new String[] {"ship", "gear", "cost", "role", "least"}) {
            for (int at = 0; at < word.length(); at++) {
                String upper = word.substring(0, at) + (char) (word.charAt(at) - 32) + word.substring(at + 1);
                String next = word.substring(0, at) + (char) (word.charAt(at) + 1) + word.substring(at + 1);
                String less = word.substring(0, at) + word.substring(at + 1);
                reads(upper + " 1 1", -1);
                reads(next + " 1 1", -1);
                reads(less + " 1 1", -1);
            }
            reads(word + "s 1 1", -1);
            reads("s" + word + " 1 1", -1);
            reads(word + word + " 1 1", -1);
        }
    }

    private static void readLeavesNoText() {
        for (String text : new String[] {"", " ", "ship 1", "ship", "x", "ship 101", "ship 1 ship 1"}) {
            CrewShares x = new CrewShares();
            Due.read(x, text);
            due.is("read() behind the read of \"" + text + "\"", x.read(), 0);
            due.is("gear 1 behind the read of \"" + text + "\"", Due.read(x, "gear 1"), 1);
        }
    }

    private static void emptyTextIsRulesToo() {
        for (String text : new String[] {"", "\n", " \n "}) {
            CrewShares x = Due.made(ALL_RULES, "01");
            due.is("read() of no words", Due.read(x, text), 0);
            settlesWithoutRules("behind no words", x);
            due.is("read() of no words again", Due.read(x, text), 0);
            settlesWithoutRules("behind no words again", x);
        }
        CrewShares y = new CrewShares();
        y.person(0);
        y.person(1);
        settlesWithoutRules("before any text", y);
        due.is("read() of a wrong text", Due.read(y, ALL_RULES + " x"), -14);
        settlesWithoutRules("behind a wrong text alone", y);
    }

    private static void settlesWithoutRules(String run, CrewShares x) {
        int t = x.trip(0, 100);
        x.cost(t, 0, 10);
        x.days(t, 0, 1);
        x.days(t, 1, 1);
        x.settle(t);
        long[] parts = {90, 0, 0, 90};
        for (int what = 0; what < parts.length; what++) {
            due.is(run + ": part(" + t + ", " + what + ")", x.part(t, what), parts[what]);
        }
        due.is(run + ": share(" + t + ", 0, 3)", x.share(t, 0, 3), 45);
        due.is(run + ": share(" + t + ", 1, 3)", x.share(t, 1, 3), 45);
    }

    /** Each sentence of the new text stands alone, so whatever else was ruled before would show. */
    private static void newTextForgetsEachRule() {
        String[] alone = {"ship 0", "gear 0", "cost 9 0", "role 9 1", "least 9 0"};
        for (String text : alone) {
            CrewShares x = Due.made(ALL_RULES, "01");
            due.is("read() of " + text, Due.read(x, text), 1);
            settlesWithoutRules(text + " behind other rules", x);
            due.is("read()", Due.read(x, ALL_RULES), 5);
            due.is("read() of " + text, Due.read(x, text), 1);
            settlesWithoutRules(text + " behind other rules again", x);
        }
    }

    /** Each rule is told anew in front of the wrong word; none of it counts. */
    private static void wrongTextLeavesEachRule() {
        CrewShares x = Due.made("ship 20 gear 30 cost 0 2 role 0 3 least 1 40", "01");
        due.is("read()", Due.read(x, "ship 1 gear 1 cost 0 1 role 0 1 least 1 1 cost 1 2 role 1 9 least 0 99 x"), -23);
        x.trip(0, 200);
        x.cost(0, 0, 10);
        x.cost(0, 1, 100);
        x.days(0, 0, 1);
        x.days(0, 1, 1);
        x.settle(0);
        long[] parts = {100, 20 - 10 - 28, 30, 50};
        for (int what = 0; what < parts.length; what++) {
            due.is("the rules stay: part(0, " + what + ")", x.part(0, what), parts[what]);
        }
        // 37.5 and 12.5: alike, so the first has the cent.
        due.is("the rules stay: share(0, 0, 0)", x.share(0, 0, 0), 38);
        due.is("the rules stay: share(0, 1, 0)", x.share(0, 1, 0), 12);
        due.is("the rules stay: share(0, 1, 1)", x.share(0, 1, 1), 28);
    }
}
