/** Compares answers with those that are due; a boolean counts 1 or 0. */
final class Due {
    static final long NO_ANSWER = Long.MIN_VALUE;
    private int wrong;

    void is(String call, long got, long want) {
        if (got != want) {
            wrong++;
            System.out.println(call + " answered " + got + ", due is " + want);
        }
    }

    void yes(String call, boolean got) {
        is(call, got ? 1 : 0, 1);
    }

    void no(String call, boolean got) {
        is(call, got ? 1 : 0, 0);
    }

    void end() {
        if (wrong != 0) {
            System.out.println(wrong + " answers are not as due");
            System.exit(1);
        }
    }

    static void write(CrewShares x, String text) {
        for (int i = 0; i < text.length(); i++) {
            if (!x.unit(text.charAt(i))) {
                throw new IllegalStateException("a byte was refused");
            }
        }
    }

    static int read(CrewShares x, String text) {
        write(x, text);
        return x.read();
    }

    /** A new object with such rules and a person for each digit of the roles. */
    static CrewShares made(String rules, String roles) {
        CrewShares x = new CrewShares();
        if (read(x, rules) < 0) {
            throw new IllegalStateException("wrong rules in a test: " + rules);
        }
        for (int i = 0; i < roles.length(); i++) {
            x.person(roles.charAt(i) - '0');
        }
        return x;
    }
}
