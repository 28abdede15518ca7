/** Promises 1 to 3: a new object, the bytes of the text, and what the reading of it answers. */
public final class RulesTest {
    private static final Due due = new Due();

    public static void main(String[] args) {
        newObjectIsEmpty();
        unitTakesBytes();
        readCountsSentences();
        readNamesTheWrongWord();
        readNamesTheMissingWord();
        readEmptiesTheText();
        lastSentenceCounts();
        readForgetsTheRulesBefore();
        wrongTextLeavesTheRules();
        rulesCountWhenSettled();
        due.end();
    }

    private static void newObjectIsEmpty() {
        CrewShares x = new CrewShares();
        for (int who = -1; who < 120; who++) {
            due.is("new: carried(" + who + ")", x.carried(who), who >= 0 && who < 4 ? 0 : -1);
        }
        due.is("new: settle(0)", x.settle(0), -1);
        due.is("new: part(0, 0)", x.part(0, 0), Due.NO_ANSWER);
        due.is("new: share(0, 0, 0)", x.share(0, 0, 0), Due.NO_ANSWER);
        due.no("new: sums(0)", x.sums(0));
        due.is("new: entry(1, -1, 0)", x.entry(1, -1, 0), Due.NO_ANSWER);
        due.is("new: enter()", x.enter(), -1);
        due.is("new: balance(0, 119)", x.balance(0, 119), 0);
        due.is("new: read()", x.read(), 0);
        due.yes("new: open(0)", x.open(0));
        due.is("new: drop()", x.drop(), 0);
        due.is("new: closeMonth(119)", x.closeMonth(119), 120);
        noRulesGiveAllToTheCrew();
    }

    private static void noRulesGiveAllToTheCrew() {
        CrewShares x = new CrewShares();
        x.person(0);
        x.person(9);
        x.trip(0, 100);
        x.cost(0, 0, 1);
        x.cost(0, 9, 2);
        x.days(0, 0, 1);
        x.days(0, 1, 1);
        due.is("no rules: settle(0)", x.settle(0), 2);
        long[] parts = {97, 0, 0, 97, 0, 0};
        for (int what = 0; what < parts.length; what++) {
            due.is("no rules: part(0, " + what + ")", x.part(0, what), parts[what]);
        }
        due.is("no rules: share(0, 0, 3)", x.share(0, 0, 3), 49);
        due.is("no rules: share(0, 1, 3)", x.share(0, 1, 3), 48);
    }

    private static void unitTakesBytes() {
        CrewShares x = new CrewShares();
        due.no("unit(-1)", x.unit(-1));
        due.no("unit(256)", x.unit(256));
        due.no("unit(least)", x.unit(Integer.MIN_VALUE));
        due.no("unit(most)", x.unit(Integer.MAX_VALUE));
        due.is("refused bytes leave no word: read()", x.read(), 0);
        due.yes("unit(0)", x.unit(0));
        due.is("byte 0 is a word: read()", x.read(), -1);
        due.yes("unit(255)", x.unit(255));
        due.is("byte 255 is a word: read()", x.read(), -1);
        due.no("unit('s' + 256)", x.unit('s' + 256));
    }

    private static void readCountsSentences() {
        reads("", 0);
        reads(" \n \n", 0);
        reads("ship 0", 1);
        reads("ship 100", 1);
        reads("gear 100", 1);
        reads("ship 100 gear 0", 2);
        reads("gear 60\nship 40", 2);
        reads("\n ship  50\n\ngear 50 \n", 2);
        reads("cost 0 0 cost 9 2", 2);
        reads("role 0 0 role 9 1000", 2);
        reads("least 0 0 least 9 999999", 2);
        reads("cost 000009 000002 ship 000100", 2);
        reads("least 1 1 least 1 1 role 1 1 role 1 2", 4);
    }

    private static void readNamesTheWrongWord() {
        String[] wrongFirst = {"x", "Ship 5", "shi 5", "shipp 5", "ship5", "5", "\tship 5", "gears 5", "leas 1 1", "s"};
        for (String text : wrongFirst) {
            reads(text, -1);
        }
        String[] wrongSecond = {"ship 101", "gear 101", "ship x", "ship -1", "ship +1", "ship 1.", "ship 0000001",
            "ship ship", "ship 1\r", "ship 1\t2", "cost 10 0", "role 10 0", "least 10 0", "cost x 0", "role a 1",
            "least 0000000 1", "ship /", "ship :", "ship 4294967296"};
        for (String text : wrongSecond) {
            reads(text, -2);
        }
        String[] wrongThird = {"cost 0 3", "role 0 1001", "least 0 1000000", "least 0 x", "cost 1 cost", "role 1 0000000",
            "ship 1 ship 1", "gear 1 gear 1", "ship 0 ship 0", "ship 5 5", "ship 5 ship", "gear 1 x"};
        for (String text : wrongThird) {
            reads(text, -3);
        }
        reads("ship 60 gear 41", -4);
        reads("gear 41 ship 60", -4);
        reads("ship 100 gear 1", -4);
        reads("cost 1 1 1", -4);
        reads("ship 1 gear 1 ship 1", -5);
        reads("role 1 1 role 2 2 role 3 x role", -9);
        reads("ship 1 x ship 1", -3);
    }

    private static void readNamesTheMissingWord() {
        reads("ship", -2);
        reads("gear \n", -2);
        reads("cost", -2);
        reads("cost 1", -3);
        reads("role 1 ", -3);
        reads("least", -2);
        reads("ship 1 least 1", -5);
    }

    private static void reads(String text, int want) {
        due.is("read() of \"" + text + "\"", Due.read(new CrewShares(), text), want);
    }

    private static void readEmptiesTheText() {
        CrewShares x = new CrewShares();
        due.is("right text: read()", Due.read(x, "ship 5"), 1);
        due.is("again: read()", x.read(), 0);
        due.is("wrong text: read()", Due.read(x, "ship 5 x"), -3);
        due.is("again: read()", x.read(), 0);
        due.is("a word in two halves: read()", Due.read(x, "shi"), -1);
        due.is("second half: read()", Due.read(x, "p 5"), -1);
    }

    private static void lastSentenceCounts() {
        CrewShares x = new CrewShares();
        due.is("read()", Due.read(x, "cost 3 1 role 0 9 least 1 50 cost 3 2 role 0 3 least 1 70 cost 03 0"), 7);
        x.person(0);
        x.person(1);
        x.trip(0, 1000);
        x.cost(0, 3, 960);
        x.days(0, 0, 1);
        x.days(0, 1, 1);
        x.settle(0);
        due.is("the last cost counts: part(0, 0)", x.part(0, 0), 40);
        due.is("the last role counts: share(0, 0, 0)", x.share(0, 0, 0), 30);
        due.is("the last least counts: share(0, 1, 1)", x.share(0, 1, 1), 60);
    }

    private static void readForgetsTheRulesBefore() {
        CrewShares x = new CrewShares();
        Due.read(x, "ship 10 gear 20 cost 0 2 role 0 5 least 0 900");
        due.is("read()", Due.read(x, "role 1 1"), 1);
        settlesWithoutRules(x);
        Due.read(x, "ship 10 gear 20 cost 0 2 role 0 5 least 0 900");
        due.is("empty text: read()", x.read(), 0);
        settlesWithoutRules(x);
        due.is("empty text again: read()", x.read(), 0);
        settlesWithoutRules(x);
    }

    private static void settlesWithoutRules(CrewShares x) {
        int first = x.person(0);
        int second = x.person(1);
        int t = x.trip(1, 1000);
        x.cost(t, 0, 100);
        x.days(t, first, 1);
        x.days(t, second, 1);
        x.settle(t);
        due.is("rules before are gone: part(" + t + ", 0)", x.part(t, 0), 900);
        due.is("rules before are gone: part(" + t + ", 1)", x.part(t, 1), 0);
        due.is("rules before are gone: part(" + t + ", 2)", x.part(t, 2), 0);
        due.is("rules before are gone: share(" + t + ", 0)", x.share(t, first, 3), 450);
        due.is("rules before are gone: share(" + t + ", 1)", x.share(t, second, 3), 450);
    }

    private static void wrongTextLeavesTheRules() {
        CrewShares x = new CrewShares();
        Due.read(x, "ship 10 gear 20 cost 0 2 role 0 5 least 0 3");
        due.is("read()", Due.read(x, "ship 50 gear 50 cost 0 1 role 0 1 least 0 9999 x"), -14);
        due.is("read()", Due.read(x, "ship 1"), 1);
        due.is("read()", Due.read(x, "ship 30 ship"), -3);
        due.is("read()", Due.read(x, "x"), -1);
        x.trip(0, 100);
        x.settle(0);
        due.is("the rules stay: part(0, 1)", x.part(0, 1), 100);
        due.is("the rules stay: part(0, 3)", x.part(0, 3), 99);
    }

    private static void rulesCountWhenSettled() {
        CrewShares x = new CrewShares();
        Due.read(x, "ship 10");
        x.trip(0, 100);
        x.trip(0, 100);
        x.settle(0);
        Due.read(x, "gear 20");
        x.settle(1);
        due.is("settled before: part(0, 2)", x.part(0, 2), 0);
        due.is("settled behind: part(1, 2)", x.part(1, 2), 20);
        due.is("settled before: part(0, 3)", x.part(0, 3), 90);
        due.is("settled behind: part(1, 3)", x.part(1, 3), 80);
    }
}
