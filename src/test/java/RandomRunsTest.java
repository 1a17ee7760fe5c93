/**
 * Long runs of calls drawn by a fixed rule, many with wrong arguments: a call throws only what its throws
 * clause names, a call that throws changes nothing, and what is asked in two ways agrees.
 */
final class RandomRunsTest {
    private static final int RUNS = 150;
    private static final int CALLS = 512;
    private static final int CALL_KINDS = 26;
    private static final int[] EXTREMES = {
        Integer.MIN_VALUE, Integer.MIN_VALUE + 1, -10000, -1, 0, 31, 32, 63, 64, Integer.MAX_VALUE
    };

    private long seed;

    private RandomRunsTest(long seed) {
        this.seed = seed;
    }

    public static void main(String[] args) {
        for (int run = 0; run < RUNS; run++) {
            long first = new RandomRunsTest(run).run(run, true);
            long second = new RandomRunsTest(run).run(run, false);
            Check.same("run " + run + ", done again", first, second);
        }
        Check.end("RandomRunsTest");
    }

    private long run(int run, boolean isChecked) {
        Claimclub state = new Claimclub();
        long trace = 0;
        for (int call = 0; call < CALLS; call++) {
            trace = trace * 31 + (isChecked ? checkedCall(state, run, call) : drawnCall(state));
        }
        if (isChecked) {
            checkPayments(state, run);
        }
        return trace;
    }

    private long checkedCall(Claimclub state, int run, int call) {
        String before = Seen.of(state);
        long held = held(state);
        long answer = drawnCall(state);
        String what = "run " + run + ", call " + call + " of kind " + kind;
        if (answer <= THROWN) {
            Check.same(what + ", that throws", before, Seen.of(state));
        }
        if (kind == 1) {
            Check.same(what + ", a pledge keeps money together", held, held(state));
        }
        return answer;
    }

    private static long held(Claimclub state) {
        long held = state.ofState(1);
        int claims = Seen.claims(state);
        for (int claim = 0; claim < claims; claim++) {
            held += state.ofClaim(claim, 5);
        }
        return held;
    }

    private static void checkPayments(Claimclub state, int run) {
        int claims = Seen.claims(state);
        Check.same("run " + run + ": at most 40 claims", true, claims <= 40);
        for (int claim = 0; claim < claims; claim++) {
            Check.same("run " + run + ": paid to " + claim, state.ofClaim(claim, 4), state.paidAnew(claim));
            boolean isOpen = state.ofClaim(claim, 0) == Claimclub.OPEN;
            Check.same("run " + run + ": only open ones have something aside", true, isOpen || state.ofClaim(claim, 5) == 0);
            Check.same("run " + run + ": only open ones are worth something", true, isOpen || state.value(claim, 0) == 0);
        }
    }

    // ---- one call

    private static final long THROWN = Long.MIN_VALUE / 2;
    private int kind;

    private long drawnCall(Claimclub state) {
        kind = drawn(0, CALL_KINDS - 1);
        try {
            if (kind < 6) {
                return claimsOrYears(state);
            }
            return kind < 11 ? offersOrVotes(state) : kind < 17 ? suitsOrProgramme(state) : asked(state);
        } catch (IndexOutOfBoundsException thrown) {
            return refusal(thrown, "pledge reveal moratorium accept vote settle sue seize assure value offered effort"
                + " passes ofClaim paidAnew", 1);
        } catch (IllegalArgumentException thrown) {
            return refusal(thrown, "claim pledge economy year discount offer thing programme value offered isBearable"
                + " ofClaim ofState", 2);
        } catch (IllegalStateException thrown) {
            return refusal(thrown, "claim pledge reveal year offer accept vote settle thing sue seize review", 3);
        }
    }

    private static final String[] NAMES = {
        "claim", "pledge", "reveal", "economy", "moratorium", "year", "discount", "offer", "accept", "vote",
        "settle", "thing", "sue", "seize", "programme", "assure", "review", "value", "offered", "effort", "areAlike",
        "passes", "isBearable", "ofClaim", "paidAnew", "ofState"
    };

    private long refusal(RuntimeException thrown, String callsThatMay, int number) {
        String name = thrown.getClass().getSimpleName();
        boolean isPlain = Check.isOwn(thrown) && (thrown.getClass() == IndexOutOfBoundsException.class
            || thrown.getClass() == IllegalArgumentException.class || thrown.getClass() == IllegalStateException.class);
        Check.same(NAMES[kind] + " may throw " + name, true,
            isPlain && (" " + callsThatMay + " ").contains(" " + NAMES[kind] + " "));
        return THROWN - number;
    }

    private long claimsOrYears(Claimclub state) {
        switch (kind) {
            case 0:
                int lender = argument(0, 4);
                int claimKind = argument(0, 4);
                int series = claimKind == Claimclub.BOND || drawn(0, 15) == 0 ? argument(0, 3) : Check.NONE;
                return state.claim(claimKind, lender, argument(1, 1000000), argument(0, 1000), argument(1, 30),
                    argument(0, 2), series, drawn(0, 3) == 0);
            case 1:
                return state.pledge(claimOf(state), argument(1, 1000000));
            case 2:
                return state.reveal(claimOf(state));
            case 3:
                return state.economy(argument(-1000, 1000), argument(-100, 200), argument(0, 1000000));
            case 4:
                return number(state.moratorium(argument(0, 4), drawn(0, 2) == 0));
            default:
                return state.year(drawn(0, 20) == 0 ? argument(1, 10) : 1);
        }
    }

    private long offersOrVotes(Claimclub state) {
        switch (kind) {
            case 6:
                return state.discount(argument(0, 1500));
            case 7:
                return state.offer(argument(0, 99), argument(0, 1000), argument(1, 30));
            case 8:
                return state.accept(claimOf(state), offerOf(state));
            case 9:
                state.vote(claimOf(state), offerOf(state), drawn(0, 3) > 0);
                return 0;
            default:
                return state.settle(offerOf(state));
        }
    }

    private long suitsOrProgramme(Claimclub state) {
        switch (kind) {
            case 11:
                return state.thing(argument(1, 1000000));
            case 12:
                state.sue(claimOf(state));
                return 0;
            case 13:
                return state.seize(claimOf(state), argument(0, 9));
            case 14:
                state.programme(argument(1, 1000000), argument(-200, 100), argument(1, 10));
                return 0;
            case 15:
                return number(state.assure(argument(0, 7), drawn(0, 3) > 0));
            default:
                return state.review();
        }
    }

    private long asked(Claimclub state) {
        switch (kind) {
            case 17:
                return state.value(claimOf(state), argument(0, 1500));
            case 18:
                return state.offered(claimOf(state), offerOf(state), argument(0, 1500));
            case 19:
                return state.effort(argument(0, 4));
            case 20:
                return number(state.areAlike());
            case 21:
                return number(state.passes(offerOf(state), argument(-1, 3)));
            case 22:
                return number(state.isBearable(argument(1, 30)));
            case 23:
                return state.ofClaim(claimOf(state), argument(0, 7));
            case 24:
                return state.paidAnew(claimOf(state));
            default:
                return state.ofState(argument(0, 4));
        }
    }

    private static long number(boolean answer) {
        return answer ? 1 : 0;
    }

    // ---- what is drawn

    private int claimOf(Claimclub state) {
        return argument(0, Math.max(Seen.claims(state) - 1, 0));
    }

    private int offerOf(Claimclub state) {
        return argument(0, Math.max(Seen.offers(state) - 1, 0));
    }

    /** Mostly within, sometimes at the edge, next to it, or far out. */
    private int argument(int least, int most) {
        switch (drawn(0, 29)) {
            case 0:
                return least;
            case 1:
                return most;
            case 2:
                return drawn(0, 3) == 0 ? least - 1 : least;
            case 3:
                return drawn(0, 3) == 0 ? most + 1 : most;
            case 4:
                return drawn(0, 3) == 0 ? EXTREMES[drawn(0, EXTREMES.length - 1)] : drawn(least, most);
            default:
                return drawn(least, most);
        }
    }

    private int drawn(int least, int most) {
        seed = seed * 6364136223846793005L + 1442695040888963407L;
        return (int) (least + Long.remainderUnsigned(seed >>> 33, (long) most - least + 1));
    }
}
