import java.util.function.Consumer;
import java.util.function.ObjIntConsumer;
import java.util.function.Supplier;

/** What the tests of bounds share: states made by the same calls, and calls that are taken or refused on them. */
final class Bounds {
    private Bounds() {
    }

    /** A new state, then these calls, as often as it is asked for. */
    static Supplier<Claimclub> made(Consumer<Claimclub> calls) {
        return () -> {
            Claimclub state = new Claimclub();
            calls.accept(state);
            return state;
        };
    }

    static void taken(String what, Supplier<Claimclub> made, Consumer<Claimclub> call) {
        Claimclub state = made.get();
        RuntimeException thrown = Check.thrownBy(() -> call.accept(state));
        Check.same(what, "nothing thrown", thrown == null ? "nothing thrown" : thrown.toString());
    }

    /** The call throws exactly that exception, and the state goes on like one on which it was not called. */
    static void refused(String what, Class<? extends RuntimeException> due, Supplier<Claimclub> made,
            Consumer<Claimclub> call) {
        Claimclub called = made.get();
        RuntimeException thrown = Check.thrownBy(() -> call.accept(called));
        Check.same(what, due.getName(), thrown == null ? "nothing thrown" : thrown.getClass().getName());
        Check.same(what + " is thrown by the class itself", true, thrown == null || Check.isOwn(thrown));
        Check.same(what + " changes nothing", Sequel.of(made.get()), Sequel.of(called));
    }

    /** The ends of the range are taken; what stands next to them, the ends of int and what wraps round are not. */
    static void range(Class<? extends RuntimeException> due, Supplier<Claimclub> made, int least, int most,
            ObjIntConsumer<Claimclub> call) {
        taken("the least, " + least, made, state -> call.accept(state, least));
        taken("the most, " + most, made, state -> call.accept(state, most));
        outside(due, made, least, most, call);
    }

    static void outside(Class<? extends RuntimeException> due, Supplier<Claimclub> made, int least, int most,
            ObjIntConsumer<Claimclub> call) {
        refusedWith(due, made, least - 1, call);
        refusedWith(due, made, most + 1, call);
        refusedWith(due, made, Integer.MIN_VALUE, call);
        refusedWith(due, made, Integer.MAX_VALUE, call);
        for (int width = 32; width > 0; width *= 2) {
            if (least + width > most) {
                refusedWith(due, made, least + width, call);
            }
            if (most - width < least) {
                refusedWith(due, made, most - width, call);
            }
        }
    }

    private static void refusedWith(Class<? extends RuntimeException> due, Supplier<Claimclub> made, int wrong,
            ObjIntConsumer<Claimclub> call) {
        refused("with " + wrong, due, made, state -> call.accept(state, wrong));
    }

    /** Of the claims, offers or things from 0 on, the first and the last are there, and none beside them. */
    static void numbers(Supplier<Claimclub> made, int count, ObjIntConsumer<Claimclub> call) {
        range(Check.BAD_INDEX, made, 0, count - 1, call);
    }

    /** There is none: not even the number 0 is one. */
    static void noNumber(Supplier<Claimclub> made, ObjIntConsumer<Claimclub> call) {
        outside(Check.BAD_INDEX, made, 0, -1, call);
    }

    // ---- what states are made of

    static int claim(Claimclub state, int kind, int lender, int principal, int coupon, int years) {
        return state.claim(kind, lender, principal, coupon, years, 0, kind == Claimclub.BOND ? 0 : Check.NONE, false);
    }

    /** A bond without a coupon, due in 9 years. */
    static int bond(Claimclub state, int lender, int principal, int series) {
        return state.claim(Claimclub.BOND, lender, principal, 0, 9, 0, series, false);
    }

    static int hidden(Claimclub state, int kind, int lender, int principal) {
        return state.claim(kind, lender, principal, 0, 9, 0, kind == Claimclub.BOND ? 0 : Check.NONE, true);
    }

    /** So many claims of suppliers, of 10 each, due in 30 years. */
    static void suppliers(Claimclub state, int count) {
        for (int i = 0; i < count; i++) {
            claim(state, Claimclub.SUPPLIER, 1, 10, 0, 30);
        }
    }

    static void bonds(Claimclub state, int count, int principal, int series) {
        for (int i = 0; i < count; i++) {
            bond(state, 1, principal, series);
        }
    }

    /** So many offers that change nothing: no cut, no coupon, 9 years. */
    static void offers(Claimclub state, int count) {
        for (int i = 0; i < count; i++) {
            state.offer(0, 0, 9);
        }
    }

    static void things(Claimclub state, int count, int worth) {
        for (int i = 0; i < count; i++) {
            state.thing(worth);
        }
    }

    /** Claim 0, of 1000 with 100 a year, is judged in the year 2: it has arrears of 205; the purse is empty. */
    static void judge(Claimclub state) {
        claim(state, Claimclub.SUPPLIER, 5, 1000, 1000, 9);
        state.year(1);
        state.sue(0);
        state.year(1);
    }

    /** A claim of that kind that was paid in the year that went by for it. */
    static int paid(Claimclub state, int kind) {
        int claim = claim(state, kind, 1, 5, 0, 1);
        state.economy(0, 0, 5);
        state.pledge(claim, 5);
        state.year(1);
        return claim;
    }

    /** All that is told of a claim, 0 to 7. */
    static void tells(String what, Claimclub state, int claim, long... due) {
        for (int i = 0; i < due.length; i++) {
            Check.same(what + ", ofClaim " + i, due[i], state.ofClaim(claim, i));
        }
    }

    static void allYears(Claimclub state) {
        while (state.ofState(0) <= 50) {
            state.year(10);
        }
    }
}
