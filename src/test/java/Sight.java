import java.util.ArrayList;
import java.util.List;
import java.util.function.Consumer;
import java.util.function.Supplier;

/**
 * All that can be seen of an object. Some of it shows only by calls that change the object, and an object has 512
 * calls, so each view looks at an object of its own, made anew by the same calls; a view has at most 260 calls.
 */
final class Sight {
    private static final int[] MONTHS = {0, 1, 2, 3, 4, 5, 59, 60, 118, 119};
    private static final List<Consumer<Sight>> VIEWS = List.of(Sight::money, Sight::shares, Sight::heads, Sight::rows,
        Sight::manyRows, Sight::balances, Sight::openEntered, Sight::openFilled, Sight::openDropped, Sight::months,
        Sight::textRead, Sight::textGoesOn, Sight::settling, Sight::days, Sight::places);

    private final CrewShares x;
    private final List<String> calls = new ArrayList<>();
    private final List<Long> answers = new ArrayList<>();

    private Sight(CrewShares x) {
        this.x = x;
    }

    /** Prints where two ways to make an object lead to other answers, and nothing where they do not. */
    static void same(Due due, String what, Supplier<CrewShares> one, Supplier<CrewShares> other) {
        for (Consumer<Sight> view : VIEWS) {
            Sight first = new Sight(one.get());
            Sight second = new Sight(other.get());
            view.accept(first);
            view.accept(second);
            for (int i = 0; i < first.calls.size() && i < second.calls.size(); i++) {
                due.is(what + ": " + second.calls.get(i), second.answers.get(i), first.answers.get(i));
            }
            due.is(what + ": answers", second.calls.size(), first.calls.size());
        }
    }

    private long see(String call, long answer) {
        calls.add(call);
        answers.add(answer);
        return answer;
    }

    private void see(String call, boolean answer) {
        see(call, answer ? 1 : 0);
    }

    private void carried() {
        for (int who = 0; who < 4; who++) {
            see("carried(" + who + ")", x.carried(who));
        }
        for (int who = 100; who < 112; who++) {
            see("carried(" + who + ")", x.carried(who));
        }
    }

    private void part(int trip, int what) {
        see("part(" + trip + ", " + what + ")", x.part(trip, what));
    }

    private void share(int trip, int person, int what) {
        see("share(" + trip + ", " + person + ", " + what + ")", x.share(trip, person, what));
    }

    private void entry(int entry, int row, int what) {
        see("entry(" + entry + ", " + row + ", " + what + ")", x.entry(entry, row, what));
    }

    private void money() {
        carried();
        for (int trip = 0; trip < 20; trip++) {
            see("sums(" + trip + ")", x.sums(trip));
            for (int what = 0; what < 6; what++) {
                part(trip, what);
            }
        }
    }

    private void shares() {
        for (int trip = 0; trip < 5; trip++) {
            for (int i = 0; i < 48; i++) {
                share(trip, i / 4, i % 4);
            }
        }
    }

    private void heads() {
        for (int entry = 1; entry <= 60; entry++) {
            for (int what = 0; what < 4; what++) {
                entry(entry, -1, what);
            }
        }
    }

    private void rows() {
        for (int entry = 1; entry <= 60; entry++) {
            for (int i = 0; i < 4; i++) {
                entry(entry, i / 2, i % 2);
            }
        }
    }

    private void manyRows() {
        for (int entry = 1; entry <= 12; entry++) {
            for (int i = 4; i < 16; i++) {
                entry(entry, i / 2, i % 2);
            }
        }
    }

    private void balances() {
        for (int account = 0; account < 20; account++) {
            for (int month : MONTHS) {
                see("balance(" + account + ", " + month + ")", x.balance(account, month));
            }
        }
    }

    private void openEntered() {
        long number = see("enter()", x.enter());
        for (int what = 0; what < 4; what++) {
            entry((int) number, -1, what);
        }
        for (int i = 0; i < 16; i++) {
            entry((int) number, i / 2, i % 2);
        }
        see("open(3599)", x.open(3599));
        openFilled();
        see("closeMonth(119)", x.closeMonth(119));
    }

    private void openFilled() {
        for (int i = 0; i < 9; i++) {
            see("row(0, 1)", x.row(0, 1));
        }
        see("enter()", x.enter());
        see("drop()", x.drop());
    }

    private void openDropped() {
        see("drop()", x.drop());
        see("closeMonth(119)", x.closeMonth(119));
    }

    private void months() {
        for (int month = 0; month < 120; month++) {
            see("closeMonth(" + month + ")", x.closeMonth(month));
        }
        see("drop()", x.drop());
    }

    private void textRead() {
        see("read()", x.read());
        settling();
    }

    private void textGoesOn() {
        Due.write(x, "0 least 0 7");
        see("read() of the text and 0 least 0 7", x.read());
        settling();
    }

    private void settling() {
        for (int trip = 0; trip < 20; trip++) {
            see("settle(" + trip + ")", x.settle(trip));
            for (int what = 0; what < 4; what++) {
                part(trip, what);
            }
            for (int person = 0; person < 5; person++) {
                share(trip, person, 3);
            }
        }
        carried();
    }

    private void days() {
        for (int trip = 0; trip < 20; trip++) {
            for (int person = 0; person < 12; person++) {
                see("days(" + trip + ", " + person + ", 0)", x.days(trip, person, 0));
            }
        }
    }

    private void places() {
        for (int i = 0; i < 13; i++) {
            see("person(0)", x.person(0));
        }
        for (int i = 0; i < 21; i++) {
            see("trip(1, 50)", x.trip(1, 50));
        }
        carried();
    }
}
