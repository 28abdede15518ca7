import java.util.Arrays;

/** Shares of fishing trips and a book of entries; ../shared/DOC.md has the promises that it keeps. */
public final class CrewShares {
    public static final int NONE = -1;

    private static final int SHIPS = 4;
    private static final int MOST_PERSONS = 12;
    private static final int MOST_TRIPS = 20;
    private static final int ROLES = 10;
    private static final int KINDS = 10;
    private static final int MOST_DAYS = 400;
    private static final long MOST_CENTS = 1000000000L;
    private static final long MOST_SALES = 1000000000000L;
    private static final int FIRST_PERSON = 100;
    private static final long NO_ANSWER = Long.MIN_VALUE;

    private final RulesText text;
    private final Crew crew;
    private final long[] losses;
    private final Trip[] trips;
    private final Parting parting;
    private final Book book;
    private Rules rules;
    private Rules draft;
    private int tripCount;

    public CrewShares() {
        text = new RulesText();
        crew = new Crew();
        losses = new long[SHIPS];
        trips = new Trip[MOST_TRIPS];
        parting = new Parting();
        book = new Book();
        rules = new Rules();
        draft = new Rules();
    }

    public boolean unit(int u) {
        return text.append(u);
    }

    public int read() {
        int answer = draft.takeText(text);
        text.empty();
        if (answer >= 0) {
            // The rules before become the next draft, so that no read makes an object.
            Rules before = rules;
            rules = draft;
            draft = before;
        }
        return answer;
    }

    public int person(int role) {
        return crew.join(role);
    }

    public boolean advance(int person, long cents) {
        if (!crew.has(person) || !areCents(cents)) {
            return false;
        }
        crew.advances[person] += cents;
        return true;
    }

    public int trip(int ship, long sales) {
        if (ship < 0 || ship >= SHIPS || sales < 0 || sales > MOST_SALES || tripCount >= MOST_TRIPS) {
            return NONE;
        }
        trips[tripCount] = new Trip(ship, sales);
        tripCount++;
        return tripCount - 1;
    }

    public boolean cost(int trip, int kind, long cents) {
        Trip t = tripToSettle(trip);
        if (t == null || kind < 0 || kind >= KINDS || !areCents(cents)) {
            return false;
        }
        t.costs[kind] += cents;
        return true;
    }

    public int days(int trip, int person, int days) {
        Trip t = tripToSettle(trip);
        if (t == null || !crew.has(person) || days < 0 || days > MOST_DAYS) {
            return NONE;
        }
        int before = t.daysOf[person];
        t.daysOf[person] = days;
        return before;
    }

    public int settle(int trip) {
        Trip t = tripToSettle(trip);
        if (t == null) {
            return NONE;
        }
        t.shareOut(rules, crew, losses, parting);
        return t.countAboard();
    }

    public long part(int trip, int what) {
        Trip t = settledTrip(trip);
        if (t == null || what < 0 || what >= Trip.PARTS) {
            return NO_ANSWER;
        }
        return t.parts[what];
    }

    public long share(int trip, int person, int what) {
        Trip t = settledTrip(trip);
        if (t == null || !crew.has(person) || what < 0 || what >= Trip.SHARES) {
            return NO_ANSWER;
        }
        return t.shares[what][person];
    }

    public long carried(int who) {
        if (who >= 0 && who < SHIPS) {
            return losses[who];
        }
        if (who >= FIRST_PERSON && crew.has(who - FIRST_PERSON)) {
            return crew.advances[who - FIRST_PERSON];
        }
        return NONE;
    }

    public boolean sums(int trip) {
        Trip t = settledTrip(trip);
        return t != null && t.isEven();
    }

    public boolean open(int day) {
        return book.begin(day);
    }

    public int row(int account, long amount) {
        return book.addRow(account, amount);
    }

    public int enter() {
        return book.takeIn();
    }

    public int drop() {
        return book.giveUp();
    }

    public int closeMonth(int month) {
        return book.closeUpTo(month);
    }

    public int correct(int entry, int day) {
        return book.takeBack(entry, day);
    }

    public long balance(int account, int month) {
        return book.totalOf(account, month);
    }

    public long entry(int entry, int row, int what) {
        return book.tell(entry, row, what);
    }

    private static boolean areCents(long cents) {
        return cents >= 1 && cents <= MOST_CENTS;
    }

    private Trip tripAt(int number) {
        return number >= 0 && number < tripCount ? trips[number] : null;
    }

    private Trip tripToSettle(int number) {
        Trip t = tripAt(number);
        return t != null && !t.settled ? t : null;
    }

    private Trip settledTrip(int number) {
        Trip t = tripAt(number);
        return t != null && t.settled ? t : null;
    }

    /** The bytes of the text of rules, and the word at which their reader stands. */
    private static final class RulesText {
        private static final int MOST_BYTES = 600;
        private static final int MOST_DIGITS = 6;

        private final char[] bytes = new char[MOST_BYTES];
        private int length;
        private int wordStart;
        private int wordEnd;
        private int wordNumber;

        boolean append(int u) {
            if (u < 0 || u > 255 || length >= MOST_BYTES) {
                return false;
            }
            bytes[length] = (char) u;
            length++;
            return true;
        }

        void empty() {
            length = 0;
        }

        void rewind() {
            wordEnd = 0;
            wordNumber = -1;
        }

        /** False behind the last word; that place has a number too, by which a missing word is told. */
        boolean nextWord() {
            wordNumber++;
            wordStart = wordEnd;
            while (wordStart < length && isGap(bytes[wordStart])) {
                wordStart++;
            }
            wordEnd = wordStart;
            while (wordEnd < length && !isGap(bytes[wordEnd])) {
                wordEnd++;
            }
            return wordStart < wordEnd;
        }

        boolean wordIs(String word) {
            if (wordEnd - wordStart != word.length()) {
                return false;
            }
            for (int i = 0; i < word.length(); i++) {
                if (bytes[wordStart + i] != word.charAt(i)) {
                    return false;
                }
            }
            return true;
        }

        /** The next word as a number of at most so much, or NONE. */
        int nextNumber(int most) {
            if (!nextWord() || wordEnd - wordStart > MOST_DIGITS) {
                return NONE;
            }
            int value = 0;
            for (int i = wordStart; i < wordEnd; i++) {
                if (bytes[i] < '0' || bytes[i] > '9') {
                    return NONE;
                }
                value = 10 * value + (bytes[i] - '0');
            }
            return value <= most ? value : NONE;
        }

        private static boolean isGap(char c) {
            return c == 32 || c == 10;
        }
    }

    /** What the sentences of one text say. */
    private static final class Rules {
        private static final int SHIP = 0;
        private static final int GEAR = 1;
        private static final int OFF_WHOLE = 0;
        private static final int OFF_CREW = 1;
        private static final int OFF_SHIP = 2;
        private static final int MOST_WEIGHT = 1000;
        private static final int MOST_LEAST = 999999;

        private final int[] percents = new int[2];
        private final int[] places = new int[KINDS];
        private final int[] weights = new int[ROLES];
        private final int[] leasts = new int[ROLES];

        Rules() {
            forget();
        }

        private void forget() {
            Arrays.fill(percents, NONE);
            Arrays.fill(places, OFF_WHOLE);
            Arrays.fill(weights, 1);
            Arrays.fill(leasts, 0);
        }

        /** How many sentences the text has, or -1 less the number of its first wrong word. */
        int takeText(RulesText text) {
            forget();
            text.rewind();
            int sentences = 0;
            while (sentences < RulesText.MOST_BYTES && text.nextWord()) {
                if (!takeSentence(text)) {
                    return -1 - text.wordNumber;
                }
                sentences++;
            }
            return sentences;
        }

        private boolean takeSentence(RulesText text) {
            if (text.wordIs("ship")) {
                return takePercent(text, SHIP, GEAR);
            }
            if (text.wordIs("gear")) {
                return takePercent(text, GEAR, SHIP);
            }
            if (text.wordIs("cost")) {
                return takeValue(text, places, OFF_SHIP);
            }
            if (text.wordIs("role")) {
                return takeValue(text, weights, MOST_WEIGHT);
            }
            return text.wordIs("least") && takeValue(text, leasts, MOST_LEAST);
        }

        private boolean takePercent(RulesText text, int whose, int other) {
            if (percents[whose] != NONE) {
                return false;
            }
            percents[whose] = text.nextNumber(100 - percentOf(other));
            return percents[whose] != NONE;
        }

        private static boolean takeValue(RulesText text, int[] values, int most) {
            int which = text.nextNumber(values.length - 1);
            if (which < 0) {
                return false;
            }
            int value = text.nextNumber(most);
            if (value < 0) {
                return false;
            }
            values[which] = value;
            return true;
        }

        int percentOf(int whose) {
            return Math.max(percents[whose], 0);
        }
    }

    /** The persons by their numbers. */
    private static final class Crew {
        private final int[] roles = new int[MOST_PERSONS];
        private final long[] advances = new long[MOST_PERSONS];
        private int size;

        int join(int role) {
            if (role < 0 || role >= ROLES || size >= MOST_PERSONS) {
                return NONE;
            }
            roles[size] = role;
            size++;
            return size - 1;
        }

        boolean has(int person) {
            return person >= 0 && person < size;
        }
    }

    /** Parts a sum BY CENTS; one object's rows serve every parting. */
    private static final class Parting {
        private final long[] weights = new long[MOST_PERSONS];
        private final long[] shares = new long[MOST_PERSONS];
        private final long[] cuts = new long[MOST_PERSONS];
        private int size;

        void clear() {
            size = 0;
        }

        void add(long weight) {
            if (size < MOST_PERSONS) {
                weights[size] = weight;
                size++;
            }
        }

        /** False, and nobody has anything, when all weights are 0. */
        boolean divide(long sum) {
            Arrays.fill(shares, 0L);
            long whole = wholeWeight();
            if (whole <= 0) {
                return false;
            }
            long lacking = sum;
            for (int i = 0; i < size; i++) {
                // At most 10^12 cents times 400000: far inside a long.
                long product = sum * weights[i];
                shares[i] = product / whole;
                cuts[i] = product % whole;
                lacking -= shares[i];
            }
            giveCents(lacking);
            return true;
        }

        private long wholeWeight() {
            long whole = 0;
            for (int i = 0; i < size; i++) {
                whole += weights[i];
            }
            return whole;
        }

        private void giveCents(long lacking) {
            for (int given = 0; given < size && given < lacking; given++) {
                int first = mostCut();
                shares[first]++;
                cuts[first] = -1;
            }
        }

        private int mostCut() {
            int most = 0;
            for (int i = 1; i < size; i++) {
                if (cuts[i] > cuts[most]) {
                    most = i;
                }
            }
            return most;
        }
    }

    /** A trip; its parts and shares are rows by the number that asks for them. */
    private static final class Trip {
        private static final int LEFT = 0;
        private static final int SHIPS_PART = 1;
        private static final int GEARS_PART = 2;
        private static final int CREWS_PART = 3;
        private static final int LOSS_BEFORE = 4;
        private static final int LOSS_BEHIND = 5;
        private static final int PARTS = 6;

        private static final int BY_SHARE = 0;
        private static final int BY_LEAST = 1;
        private static final int OFF_ADVANCE = 2;
        private static final int PAID = 3;
        private static final int SHARES = 4;

        private final int ship;
        private final long sales;
        private final long[] costs = new long[KINDS];
        private final int[] daysOf = new int[MOST_PERSONS];
        private final long[] parts = new long[PARTS];
        private final long[][] shares = new long[SHARES][MOST_PERSONS];
        private boolean settled;

        Trip(int ship, long sales) {
            this.ship = ship;
            this.sales = sales;
        }

        /** SETTLING. */
        void shareOut(Rules rules, Crew crew, long[] losses, Parting parting) {
            settled = true;
            bearLoss(rules, losses);
            partLeft(rules, parting);
            bearCosts(rules);
            shareCrewsPart(rules, crew, parting);
            for (int p = 0; p < crew.size; p++) {
                topUp(p, rules.leasts[crew.roles[p]]);
                pay(p, crew);
            }
        }

        private void bearLoss(Rules rules, long[] losses) {
            parts[LOSS_BEFORE] = losses[ship];
            long left = sales - costsOff(rules, Rules.OFF_WHOLE) - losses[ship];
            parts[LEFT] = Math.max(left, 0);
            parts[LOSS_BEHIND] = Math.max(-left, 0);
            losses[ship] = parts[LOSS_BEHIND];
        }

        private void partLeft(Rules rules, Parting parting) {
            int shipPercent = rules.percentOf(Rules.SHIP);
            int gearPercent = rules.percentOf(Rules.GEAR);
            parting.clear();
            parting.add(shipPercent);
            parting.add(gearPercent);
            parting.add(100 - shipPercent - gearPercent);
            parting.divide(parts[LEFT]);
            parts[SHIPS_PART] = parting.shares[0];
            parts[GEARS_PART] = parting.shares[1];
            parts[CREWS_PART] = parting.shares[2];
        }

        private void bearCosts(Rules rules) {
            long crewsCosts = costsOff(rules, Rules.OFF_CREW);
            long borne = Math.min(crewsCosts, parts[CREWS_PART]);
            parts[CREWS_PART] -= borne;
            parts[SHIPS_PART] -= crewsCosts - borne + costsOff(rules, Rules.OFF_SHIP);
        }

        private void shareCrewsPart(Rules rules, Crew crew, Parting parting) {
            parting.clear();
            // Those without days weigh 0, which changes nobody's share and keeps places and numbers the same.
            for (int p = 0; p < crew.size; p++) {
                parting.add((long) rules.weights[crew.roles[p]] * daysOf[p]);
            }
            if (!parting.divide(parts[CREWS_PART])) {
                parts[SHIPS_PART] += parts[CREWS_PART];
            }
            for (int p = 0; p < crew.size; p++) {
                shares[BY_SHARE][p] = parting.shares[p];
            }
        }

        private void topUp(int person, int leastADay) {
            long least = (long) leastADay * daysOf[person];
            long lacking = Math.max(least - shares[BY_SHARE][person], 0);
            shares[BY_LEAST][person] = lacking;
            parts[SHIPS_PART] -= lacking;
        }

        private void pay(int person, Crew crew) {
            long has = hasOf(person);
            long off = Math.min(has, crew.advances[person]);
            crew.advances[person] -= off;
            shares[OFF_ADVANCE][person] = off;
            shares[PAID][person] = has - off;
        }

        private long hasOf(int person) {
            return shares[BY_SHARE][person] + shares[BY_LEAST][person];
        }

        private long costsOff(Rules rules, int place) {
            long sum = 0;
            for (int k = 0; k < KINDS; k++) {
                if (rules.places[k] == place) {
                    sum += costs[k];
                }
            }
            return sum;
        }

        int countAboard() {
            int aboard = 0;
            for (int p = 0; p < MOST_PERSONS; p++) {
                if (daysOf[p] > 0) {
                    aboard++;
                }
            }
            return aboard;
        }

        /** Whether all that was given out is what was there to give. */
        boolean isEven() {
            long given = parts[SHIPS_PART] + parts[GEARS_PART];
            for (int p = 0; p < MOST_PERSONS; p++) {
                given += hasOf(p);
            }
            long there = sales - parts[LOSS_BEFORE] + parts[LOSS_BEHIND];
            for (int k = 0; k < KINDS; k++) {
                there -= costs[k];
            }
            return given == there;
        }
    }

    /** The entries by their numbers, the one that may be open, and the months that are closed. */
    private static final class Book {
        private static final int MOST_ENTRIES = 60;
        private static final int MONTHS = 120;
        private static final int DAYS_OF_MONTH = 30;
        private static final int ACCOUNTS = 20;
        private static final long MOST_AMOUNT = 1000000000000L;

        private final Entry[] entries = new Entry[MOST_ENTRIES];
        private int size;
        private Entry draft = new Entry();
        private boolean isOpen;
        private int closedMonths;

        boolean begin(int day) {
            if (isOpen || !takesDay(day) || isFull()) {
                return false;
            }
            draft.startOn(day);
            isOpen = true;
            return true;
        }

        int addRow(int account, long amount) {
            if (!isOpen || !isAccount(account) || amount == 0) {
                return NONE;
            }
            if (amount < -MOST_AMOUNT || amount > MOST_AMOUNT || draft.isFull()) {
                return NONE;
            }
            draft.add(account, amount);
            return draft.size;
        }

        int takeIn() {
            if (!isOpen) {
                return NONE;
            }
            if (draft.size == 0 || draft.total() != 0 || isFull()) {
                return 0;
            }
            int number = putIn(draft);
            draft = new Entry();
            isOpen = false;
            return number;
        }

        int giveUp() {
            if (!isOpen) {
                return NONE;
            }
            isOpen = false;
            return draft.size;
        }

        int closeUpTo(int month) {
            if (!isMonth(month) || (isOpen && monthOf(draft.day) <= month)) {
                return NONE;
            }
            int before = closedMonths;
            closedMonths = Math.max(before, month + 1);
            return closedMonths - before;
        }

        int takeBack(int number, int day) {
            Entry old = entryAt(number);
            if (old == null || !isClosed(old.day) || old.isTakenBack() || old.takesOneBack()) {
                return NONE;
            }
            if (!takesDay(day) || isFull()) {
                return NONE;
            }
            Entry opposite = new Entry();
            opposite.startOn(day);
            opposite.addReversed(old);
            opposite.takesBack = number;
            old.takenBackBy = putIn(opposite);
            return old.takenBackBy;
        }

        long totalOf(int account, int month) {
            if (!isAccount(account) || !isMonth(month)) {
                return NO_ANSWER;
            }
            long total = 0;
            for (int i = 0; i < size; i++) {
                Entry e = entries[i];
                if (e != null && monthOf(e.day) <= month) {
                    total += e.totalOf(account);
                }
            }
            return total;
        }

        long tell(int number, int row, int what) {
            Entry e = entryAt(number);
            if (e == null) {
                return NO_ANSWER;
            }
            return row == NONE ? e.tellHead(what) : e.tellRow(row, what);
        }

        private int putIn(Entry e) {
            if (size < MOST_ENTRIES) {
                entries[size] = e;
                size++;
            }
            return size;
        }

        private Entry entryAt(int number) {
            return number >= 1 && number <= size ? entries[number - 1] : null;
        }

        private boolean isFull() {
            return size >= MOST_ENTRIES;
        }

        private boolean takesDay(int day) {
            return day >= 0 && day < MONTHS * DAYS_OF_MONTH && !isClosed(day);
        }

        private boolean isClosed(int day) {
            return monthOf(day) < closedMonths;
        }

        private static int monthOf(int day) {
            return day / DAYS_OF_MONTH;
        }

        private static boolean isMonth(int month) {
            return month >= 0 && month < MONTHS;
        }

        private static boolean isAccount(int account) {
            return account >= 0 && account < ACCOUNTS;
        }
    }

    /** An entry with its rows; 0 stands for no other entry. */
    private static final class Entry {
        private static final int MOST_ROWS = 8;

        private final int[] accounts = new int[MOST_ROWS];
        private final long[] amounts = new long[MOST_ROWS];
        private int size;
        private int day;
        private int takesBack;
        private int takenBackBy;

        void startOn(int day) {
            this.day = day;
            size = 0;
        }

        boolean isFull() {
            return size >= MOST_ROWS;
        }

        void add(int account, long amount) {
            if (!isFull()) {
                accounts[size] = account;
                amounts[size] = amount;
                size++;
            }
        }

        void addReversed(Entry other) {
            for (int i = 0; i < other.size; i++) {
                add(other.accounts[i], -other.amounts[i]);
            }
        }

        boolean isTakenBack() {
            return takenBackBy != 0;
        }

        boolean takesOneBack() {
            return takesBack != 0;
        }

        long total() {
            long total = 0;
            for (int i = 0; i < size; i++) {
                total += amounts[i];
            }
            return total;
        }

        long totalOf(int account) {
            long total = 0;
            for (int i = 0; i < size; i++) {
                if (accounts[i] == account) {
                    total += amounts[i];
                }
            }
            return total;
        }

        long tellHead(int what) {
            switch (what) {
                case 0:
                    return day;
                case 1:
                    return size;
                case 2:
                    return takesBack;
                case 3:
                    return takenBackBy;
                default:
                    return NO_ANSWER;
            }
        }

        long tellRow(int row, int what) {
            if (row < 0 || row >= size || what < 0 || what > 1) {
                return NO_ANSWER;
            }
            return what == 0 ? accounts[row] : amounts[row];
        }
    }
}
