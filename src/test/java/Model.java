import java.math.BigInteger;
import java.util.ArrayList;
import java.util.HashMap;
import java.util.List;
import java.util.Map;

/** The document once more, told with the Java library and no thought of room or speed, to compare answers with. */
final class Model {
    private static final long NO_ANSWER = Long.MIN_VALUE;

    private static final class Voyage {
        int ship;
        long sales;
        Map<Integer, Long> costs = new HashMap<>();
        Map<Integer, Integer> days = new HashMap<>();
        long[] parts;
        Map<Integer, long[]> shares = new HashMap<>();
    }

    private static final class Page {
        int day;
        List<long[]> rows = new ArrayList<>();
        int takesBack;
        int takenBackBy;
    }

    private final StringBuilder text = new StringBuilder();
    private Map<String, Integer> rules = new HashMap<>();
    private final List<Integer> roles = new ArrayList<>();
    private final List<Long> advances = new ArrayList<>();
    private final long[] losses = new long[4];
    private final List<Voyage> voyages = new ArrayList<>();
    private final List<Page> pages = new ArrayList<>();
    private Page openPage;
    private int closed;

    boolean unit(int u) {
        if (u < 0 || u > 255 || text.length() == 600) {
            return false;
        }
        text.append((char) u);
        return true;
    }

    int read() {
        List<String> words = new ArrayList<>();
        for (String word : text.toString().split("[ \n]")) {
            if (!word.isEmpty()) {
                words.add(word);
            }
        }
        text.setLength(0);
        Map<String, Integer> told = new HashMap<>();
        int at = 0;
        int sentences = 0;
        while (at < words.size()) {
            String name = words.get(at);
            boolean percent = name.equals("ship") || name.equals("gear");
            if (!percent && !name.equals("cost") && !name.equals("role") && !name.equals("least")) {
                return -1 - at;
            }
            if (percent && told.containsKey(name)) {
                return -1 - at;
            }
            String key = name;
            if (!percent) {
                at++;
                int which = number(words, at, 9);
                if (which < 0) {
                    return -1 - at;
                }
                key = name + which;
            }
            at++;
            int value = number(words, at, mostOf(name, told));
            if (value < 0) {
                return -1 - at;
            }
            told.put(key, value);
            at++;
            sentences++;
        }
        rules = told;
        return sentences;
    }

    private static int mostOf(String name, Map<String, Integer> told) {
        switch (name) {
            case "ship": return 100 - told.getOrDefault("gear", 0);
            case "gear": return 100 - told.getOrDefault("ship", 0);
            case "cost": return 2;
            case "role": return 1000;
            default: return 999999;
        }
    }

    private static int number(List<String> words, int at, int most) {
        if (at >= words.size() || !words.get(at).matches("[0-9]{1,6}")) {
            return -1;
        }
        int value = Integer.parseInt(words.get(at));
        return value <= most ? value : -1;
    }

    int person(int role) {
        if (role < 0 || role > 9 || roles.size() == 12) {
            return -1;
        }
        roles.add(role);
        advances.add(0L);
        return roles.size() - 1;
    }

    private boolean isPerson(int person) {
        return person >= 0 && person < roles.size();
    }

    boolean advance(int person, long cents) {
        if (!isPerson(person) || cents < 1 || cents > 1000000000L) {
            return false;
        }
        advances.set(person, advances.get(person) + cents);
        return true;
    }

    int trip(int ship, long sales) {
        if (ship < 0 || ship > 3 || sales < 0 || sales > 1000000000000L || voyages.size() == 20) {
            return -1;
        }
        Voyage v = new Voyage();
        v.ship = ship;
        v.sales = sales;
        voyages.add(v);
        return voyages.size() - 1;
    }

    private Voyage voyage(int trip, boolean settled) {
        if (trip < 0 || trip >= voyages.size()) {
            return null;
        }
        Voyage v = voyages.get(trip);
        return (v.parts != null) == settled ? v : null;
    }

    boolean cost(int trip, int kind, long cents) {
        Voyage v = voyage(trip, false);
        if (v == null || kind < 0 || kind > 9 || cents < 1 || cents > 1000000000L) {
            return false;
        }
        v.costs.merge(kind, cents, Long::sum);
        return true;
    }

    int days(int trip, int person, int days) {
        Voyage v = voyage(trip, false);
        if (v == null || !isPerson(person) || days < 0 || days > 400) {
            return -1;
        }
        Integer before = days == 0 ? v.days.remove(person) : v.days.put(person, days);
        return before == null ? 0 : before;
    }

    private long costsOff(Voyage v, int place) {
        return v.costs.entrySet().stream()
            .filter(e -> rules.getOrDefault("cost" + e.getKey(), 0) == place).mapToLong(Map.Entry::getValue).sum();
    }

    /** Sorts by what was cut, which is another way to the same cents than to look for the most again and again. */
    private static long[] byCents(long sum, long[] weights) {
        BigInteger whole = BigInteger.ZERO;
        for (long w : weights) {
            whole = whole.add(BigInteger.valueOf(w));
        }
        long[] shares = new long[weights.length];
        BigInteger[] cuts = new BigInteger[weights.length];
        List<Integer> order = new ArrayList<>();
        long lacking = sum;
        for (int i = 0; i < weights.length; i++) {
            BigInteger[] parted = BigInteger.valueOf(sum).multiply(BigInteger.valueOf(weights[i])).divideAndRemainder(whole);
            shares[i] = parted[0].longValueExact();
            cuts[i] = parted[1];
            lacking -= shares[i];
            order.add(i);
        }
        order.sort((a, b) -> cuts[b].compareTo(cuts[a]));
        for (int i = 0; i < lacking; i++) {
            shares[order.get(i)]++;
        }
        return shares;
    }

    int settle(int trip) {
        Voyage v = voyage(trip, false);
        if (v == null) {
            return -1;
        }
        long before = losses[v.ship];
        long left = v.sales - costsOff(v, 0) - before;
        long behind = 0;
        if (left < 0) {
            behind = -left;
            left = 0;
        }
        losses[v.ship] = behind;
        int ship = rules.getOrDefault("ship", 0);
        int gear = rules.getOrDefault("gear", 0);
        long[] three = byCents(left, new long[] {ship, gear, 100 - ship - gear});
        long crew = three[2] - costsOff(v, 1);
        if (crew < 0) {
            three[0] += crew;
            crew = 0;
        }
        three[0] -= costsOff(v, 2);
        v.parts = new long[] {left, three[0], three[1], crew, before, behind};
        List<Integer> aboard = new ArrayList<>();
        for (int p = 0; p < roles.size(); p++) {
            if (v.days.containsKey(p)) {
                aboard.add(p);
            }
        }
        payAll(v, crew, aboard);
        return aboard.size();
    }

    private void payAll(Voyage v, long crew, List<Integer> aboard) {
        long[] weights = new long[aboard.size()];
        long whole = 0;
        for (int i = 0; i < weights.length; i++) {
            int p = aboard.get(i);
            weights[i] = (long) rules.getOrDefault("role" + roles.get(p), 1) * v.days.get(p);
            whole += weights[i];
        }
        long[] shares = whole == 0 ? new long[weights.length] : byCents(crew, weights);
        if (whole == 0) {
            v.parts[1] += crew;
        }
        for (int i = 0; i < weights.length; i++) {
            int p = aboard.get(i);
            long least = (long) rules.getOrDefault("least" + roles.get(p), 0) * v.days.get(p);
            long added = shares[i] < least ? least - shares[i] : 0;
            v.parts[1] -= added;
            long has = shares[i] + added;
            long off = has < advances.get(p) ? has : advances.get(p);
            advances.set(p, advances.get(p) - off);
            v.shares.put(p, new long[] {shares[i], added, off, has - off});
        }
    }

    long part(int trip, int what) {
        Voyage v = voyage(trip, true);
        return v == null || what < 0 || what > 5 ? NO_ANSWER : v.parts[what];
    }

    long share(int trip, int person, int what) {
        Voyage v = voyage(trip, true);
        if (v == null || !isPerson(person) || what < 0 || what > 3) {
            return NO_ANSWER;
        }
        return v.shares.getOrDefault(person, new long[4])[what];
    }

    long carried(int who) {
        if (who >= 0 && who <= 3) {
            return losses[who];
        }
        return who >= 100 && isPerson(who - 100) ? advances.get(who - 100) : -1;
    }

    boolean sums(int trip) {
        return voyage(trip, true) != null;
    }

    private boolean isDay(int day) {
        return day >= 0 && day <= 3599 && day / 30 >= closed;
    }

    boolean open(int day) {
        if (openPage != null || !isDay(day) || pages.size() == 60) {
            return false;
        }
        openPage = new Page();
        openPage.day = day;
        return true;
    }

    int row(int account, long amount) {
        if (openPage == null || account < 0 || account > 19 || amount == 0 || openPage.rows.size() == 8
            || amount < -1000000000000L || amount > 1000000000000L) {
            return -1;
        }
        openPage.rows.add(new long[] {account, amount});
        return openPage.rows.size();
    }

    int enter() {
        if (openPage == null) {
            return -1;
        }
        if (openPage.rows.isEmpty() || openPage.rows.stream().mapToLong(r -> r[1]).sum() != 0 || pages.size() == 60) {
            return 0;
        }
        pages.add(openPage);
        openPage = null;
        return pages.size();
    }

    int drop() {
        int rows = openPage == null ? -1 : openPage.rows.size();
        openPage = null;
        return rows;
    }

    int closeMonth(int month) {
        if (month < 0 || month > 119 || openPage != null && openPage.day / 30 <= month) {
            return -1;
        }
        int newly = 0;
        while (closed <= month) {
            closed++;
            newly++;
        }
        return newly;
    }

    int correct(int entry, int day) {
        if (entry < 1 || entry > pages.size() || !isDay(day) || pages.size() == 60) {
            return -1;
        }
        Page old = pages.get(entry - 1);
        if (old.day / 30 >= closed || old.takenBackBy != 0 || old.takesBack != 0) {
            return -1;
        }
        Page page = new Page();
        page.day = day;
        page.takesBack = entry;
        for (long[] row : old.rows) {
            page.rows.add(new long[] {row[0], -row[1]});
        }
        pages.add(page);
        old.takenBackBy = pages.size();
        return pages.size();
    }

    long balance(int account, int month) {
        if (account < 0 || account > 19 || month < 0 || month > 119) {
            return NO_ANSWER;
        }
        return pages.stream().filter(p -> p.day / 30 <= month).flatMap(p -> p.rows.stream())
            .filter(r -> r[0] == account).mapToLong(r -> r[1]).sum();
    }

    long entry(int entry, int row, int what) {
        if (entry < 1 || entry > pages.size()) {
            return NO_ANSWER;
        }
        Page p = pages.get(entry - 1);
        if (row == -1) {
            long[] head = {p.day, p.rows.size(), p.takesBack, p.takenBackBy};
            return what < 0 || what > 3 ? NO_ANSWER : head[what];
        }
        return row < 0 || row >= p.rows.size() || what < 0 || what > 1 ? NO_ANSWER : p.rows.get(row)[what];
    }
}
