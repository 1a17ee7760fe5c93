import java.util.function.Consumer;
import java.util.function.Supplier;

/** Promises 1 to 7, sentence by sentence, at their bounds. */
final class ClaimsAndYearsBounds {
    private static final Class<? extends RuntimeException> BAD_INDEX = Check.BAD_INDEX;
    private static final Class<? extends RuntimeException> BAD_ARGUMENT = Check.BAD_ARGUMENT;
    private static final Class<? extends RuntimeException> BAD_STATE = Check.BAD_STATE;

    private ClaimsAndYearsBounds() {
    }

    static void tell(Sentences all) {
        tellPromises1And2(all);
        tellPromises3And4(all);
        tellPromises5And6(all);
        tellPromise7(all);
    }

    // ---- promises 1 and 2: a new object, claim

    private static void tellPromises1And2(Sentences all) {
        all.test("Promise 1", "Creates a state without claims", ClaimsAndYearsBounds::newObjectHasNothing);
        all.test("Promise 1", "growth and balance are 0", ClaimsAndYearsBounds::newObjectHasNoGrowthNorBalance);
        all.test("Promise 2", "Takes a claim up", ClaimsAndYearsBounds::claimIsTakenUp);
        all.test("Promise 2", "`kind`: CLUB to FUND", ClaimsAndYearsBounds::claimKind);
        all.test("Promise 2", "`lender`: 0 to 7", ClaimsAndYearsBounds::claimLender);
        all.test("Promise 2", "`principal`: 1 to 1000000", ClaimsAndYearsBounds::claimPrincipal);
        all.test("Promise 2", "`coupon`: 0 to 1000", ClaimsAndYearsBounds::claimCoupon);
        all.test("Promise 2", "`years`: 1 to 30", ClaimsAndYearsBounds::claimYears);
        all.test("Promise 2", "so many years from now it is due", ClaimsAndYearsBounds::claimIsDueFromNow);
        all.test("Promise 2", "`rank`: 0 to 2", ClaimsAndYearsBounds::claimRank);
        all.test("Promise 2", "`series`: 0 to 3 for a BOND", ClaimsAndYearsBounds::claimSeriesOfABond);
        all.test("Promise 2", "otherwise NONE", ClaimsAndYearsBounds::claimSeriesOfNoBond);
        all.test("Promise 2", "whether it is hidden", ClaimsAndYearsBounds::claimIsHidden);
        all.test("Promise 2", "Returns its number", ClaimsAndYearsBounds::claimReturnsItsNumber);
        all.test("Promise 2", "Throws `IllegalArgumentException` if an argument is out of range",
            ClaimsAndYearsBounds::claimWithAWrongArgument);
        all.test("Promise 2", "Throws `IllegalStateException` if there are 40", ClaimsAndYearsBounds::claimAmongForty);
    }

    private static void newObjectHasNothing() {
        Supplier<Claimclub> made = Claimclub::new;
        Bounds.noNumber(made, (state, claim) -> state.ofClaim(claim, 0));
        Bounds.noNumber(made, (state, offer) -> state.passes(offer, 0));
        Bounds.noNumber(Bounds.made(state -> Bounds.claim(state, 0, 1, 10, 0, 1)),
            (state, thing) -> state.seize(0, thing));
        Claimclub state = new Claimclub();
        Check.same("the first claim", 0, Bounds.claim(state, 0, 1, 10, 0, 1));
        Check.same("the first offer", 0, state.offer(0, 0, 1));
        Check.same("the first thing", 0, state.thing(1));
        Check.same("another new object has none of these", 0, Seen.claims(new Claimclub()));
    }

    private static void newObjectHasNoGrowthNorBalance() {
        Claimclub state = new Claimclub();
        for (int tens = 1; tens <= 6; tens++) {
            Check.same("nothing is paid", 0, state.year(10));
            Check.same("the purse", 0, state.ofState(1));
            Check.same("the output", 1000000, state.ofState(2));
        }
    }

    private static void claimIsTakenUp() {
        Claimclub state = new Claimclub();
        state.claim(1, 3, 12345, 250, 4, 1, 2, false);
        Bounds.tells("a new claim", state, 0, Claimclub.OPEN, 12345, 0, 4, 0, 0, 0, Claimclub.NONE);
        Check.same("nothing was paid to it", 0, state.paidAnew(0));
        Check.same("no money moves", 0, state.ofState(1));
        Check.same("there is no other one", 1, Seen.claims(state));
    }

    private static void claimKind() {
        Bounds.range(BAD_ARGUMENT, Claimclub::new, Claimclub.CLUB, Claimclub.FUND,
            (state, kind) -> Bounds.claim(state, kind, 1, 10, 0, 1));
        for (int kind = Claimclub.CLUB; kind <= Claimclub.FUND; kind++) {
            for (int stopped = Claimclub.CLUB; stopped <= Claimclub.FUND; stopped++) {
                Claimclub state = new Claimclub();
                Bounds.claim(state, kind, 1, 10, 0, 1);
                state.economy(0, 0, 10);
                state.moratorium(stopped, true);
                Check.same("kind " + kind + ", a moratorium on " + stopped, kind == stopped ? 0 : 10, state.year(1));
            }
        }
    }

    private static void claimLender() {
        Bounds.range(BAD_ARGUMENT, Claimclub::new, 0, 7, (state, lender) -> Bounds.claim(state, 0, lender, 10, 0, 1));
        for (int lender = 0; lender <= 7; lender++) {
            for (int assuring = 0; assuring <= 7; assuring++) {
                Claimclub state = new Claimclub();
                Bounds.claim(state, Claimclub.CLUB, lender, 10, 0, 1);
                Check.same("the debt to the lender " + lender, lender == 0 ? 0 : 10, state.ofState(3));
                state.programme(1, 0, 1);
                state.assure(assuring, true);
                Check.same("lender " + lender + ", with " + assuring, lender == assuring ? 0 : 3, state.review());
            }
        }
    }

    private static void claimPrincipal() {
        Bounds.range(BAD_ARGUMENT, Claimclub::new, 1, 1000000,
            (state, principal) -> Bounds.claim(state, 0, 1, principal, 0, 1));
        for (int principal : new int[] {1, 2, 999999, 1000000}) {
            Claimclub state = new Claimclub();
            Bounds.claim(state, 0, 1, principal, 0, 1);
            Check.same("its principal", principal, state.ofClaim(0, 1));
            state.economy(0, 0, 1000000);
            Check.same("it is paid as it is due", principal, state.year(1));
        }
    }

    private static void claimCoupon() {
        Bounds.range(BAD_ARGUMENT, Claimclub::new, 0, 1000,
            (state, coupon) -> Bounds.claim(state, 0, 1, 10, coupon, 1));
        for (int coupon : new int[] {0, 1, 999, 1000}) {
            Claimclub state = new Claimclub();
            Bounds.claim(state, 0, 1, 1000000, coupon, 2);
            state.economy(0, 0, 1000000);
            Check.same("a coupon of " + coupon, 100 * coupon, state.year(1));
        }
    }

    private static void claimYears() {
        Bounds.range(BAD_ARGUMENT, Claimclub::new, 1, 30, (state, years) -> Bounds.claim(state, 0, 1, 10, 0, years));
        for (int years : new int[] {1, 2, 29, 30}) {
            Claimclub state = new Claimclub();
            state.economy(0, 0, 10);
            Bounds.claim(state, 0, 1, 10, 0, years);
            for (int year = 1; year < years; year++) {
                Check.same("not due yet", 0, state.year(1));
            }
            Check.same("open the year before", Claimclub.OPEN, state.ofClaim(0, 0));
            Check.same("due in " + years, 10, state.year(1));
            Check.same("paid", Claimclub.PAID, state.ofClaim(0, 0));
        }
    }

    private static void claimIsDueFromNow() {
        Claimclub state = new Claimclub();
        for (int now : new int[] {0, 10, 20, 30, 40, 50, 60}) {
            Check.same("the year", now, state.ofState(0));
            Check.same("the least from " + now, now + 1, state.ofClaim(Bounds.claim(state, 0, 1, 10, 0, 1), 3));
            Check.same("the most from " + now, now + 30, state.ofClaim(Bounds.claim(state, 0, 1, 10, 0, 30), 3));
            if (now < 60) {
                state.year(10);
            }
        }
    }

    private static void claimRank() {
        Bounds.range(BAD_ARGUMENT, Claimclub::new, 0, 2, (state, rank) -> state.claim(0, 1, 10, 0, 1, rank, -1, false));
        Claimclub state = new Claimclub();
        for (int rank = 2; rank >= 0; rank--) {
            state.claim(0, 1, 10, 0, 1, rank, -1, false);
        }
        state.economy(0, 0, 25);
        Check.same("all that is there", 25, state.year(1));
        Check.same("rank 2 comes last", 5, state.ofClaim(0, 4));
        Check.same("rank 1", 10, state.ofClaim(1, 4));
        Check.same("rank 0", 10, state.ofClaim(2, 4));
    }

    private static void claimSeriesOfABond() {
        Bounds.range(BAD_ARGUMENT, Claimclub::new, 0, 3, (state, series) -> Bounds.bond(state, 1, 10, series));
        for (int series = 0; series <= 3; series++) {
            Claimclub state = new Claimclub();
            state.vote(Bounds.bond(state, 1, 10, series), state.offer(0, 0, 1), true);
            for (int asked = 0; asked <= 3; asked++) {
                Check.same("series " + series + " asked as " + asked, series == asked, state.passes(0, asked));
            }
        }
    }

    private static void claimSeriesOfNoBond() {
        for (int kind : new int[] {Claimclub.CLUB, Claimclub.BANK, Claimclub.SUPPLIER, Claimclub.FUND}) {
            Bounds.range(BAD_ARGUMENT, Claimclub::new, Claimclub.NONE, Claimclub.NONE,
                (state, series) -> state.claim(kind, 1, 10, 0, 1, 0, series, false));
        }
        Bounds.refused("NONE for a bond", BAD_ARGUMENT, Claimclub::new,
            state -> state.claim(Claimclub.BOND, 1, 10, 0, 1, 0, Claimclub.NONE, false));
    }

    private static void claimIsHidden() {
        Claimclub state = new Claimclub();
        state.claim(0, 1, 10, 0, 1, 0, -1, true);
        Check.same("a hidden one is no debt", 0, state.ofState(3));
        state.claim(0, 1, 7, 0, 1, 0, -1, false);
        Check.same("another one is", 7, state.ofState(3));
        Check.same("the hidden one is revealed", 17, state.reveal(0));
        Bounds.refused("the other one is not hidden", BAD_STATE,
            Bounds.made(made -> made.claim(0, 1, 7, 0, 1, 0, -1, false)), made -> made.reveal(0));
    }

    private static void claimReturnsItsNumber() {
        Claimclub state = new Claimclub();
        for (int number = 0; number < 40; number++) {
            Check.same("the next number", number, Bounds.claim(state, number % 5, number % 8, 10, 0, 1));
        }
    }

    /** Each argument of claim next to its range, and all of them at once. */
    private static void refuseWrongArguments(Supplier<Claimclub> made) {
        for (int kind : new int[] {-1, 5}) {
            Bounds.refused("kind " + kind, BAD_ARGUMENT, made, state -> state.claim(kind, 1, 10, 0, 1, 0, -1, false));
        }
        for (int lender : new int[] {-1, 8}) {
            Bounds.refused("lender " + lender, BAD_ARGUMENT, made,
                state -> state.claim(0, lender, 10, 0, 1, 0, -1, false));
        }
        for (int principal : new int[] {0, 1000001}) {
            Bounds.refused("principal " + principal, BAD_ARGUMENT, made,
                state -> state.claim(0, 1, principal, 0, 1, 0, -1, false));
        }
        for (int coupon : new int[] {-1, 1001}) {
            Bounds.refused("coupon " + coupon, BAD_ARGUMENT, made,
                state -> state.claim(0, 1, 10, coupon, 1, 0, -1, false));
        }
        for (int years : new int[] {0, 31}) {
            Bounds.refused("years " + years, BAD_ARGUMENT, made,
                state -> state.claim(0, 1, 10, 0, years, 0, -1, false));
        }
        for (int rank : new int[] {-1, 3}) {
            Bounds.refused("rank " + rank, BAD_ARGUMENT, made, state -> state.claim(0, 1, 10, 0, 1, rank, -1, false));
        }
        for (int series : new int[] {-1, 4}) {
            Bounds.refused("series " + series, BAD_ARGUMENT, made,
                state -> state.claim(1, 1, 10, 0, 1, 0, series, false));
        }
        Bounds.refused("a series for the club", BAD_ARGUMENT, made, state -> state.claim(0, 1, 10, 0, 1, 0, 0, false));
        Bounds.refused("all of them", BAD_ARGUMENT, made, state -> state.claim(5, 8, 0, 1001, 31, 3, 4, true));
        Bounds.refused("all of them, low", BAD_ARGUMENT, made, state -> state.claim(-1, -1, 0, -1, 0, -1, -2, true));
    }

    private static void claimWithAWrongArgument() {
        refuseWrongArguments(Claimclub::new);
        refuseWrongArguments(Bounds.made(state -> Bounds.suppliers(state, 39)));
        // With 40 the IllegalStateException stands behind it.
        refuseWrongArguments(Bounds.made(state -> Bounds.suppliers(state, 40)));
    }

    private static void claimAmongForty() {
        Consumer<Claimclub> call = state -> Bounds.claim(state, 0, 1, 10, 0, 1);
        Bounds.taken("there are 39", Bounds.made(state -> Bounds.suppliers(state, 39)), call);
        Bounds.refused("there are 40", BAD_STATE, Bounds.made(state -> Bounds.suppliers(state, 40)), call);
        Bounds.refused("there are 40, one of them paid", BAD_STATE, Bounds.made(state -> {
            Bounds.paid(state, Claimclub.CLUB);
            Bounds.suppliers(state, 39);
        }), call);
        Bounds.refused("there are 40, one of them swapped", BAD_STATE, Bounds.made(state -> {
            Bounds.suppliers(state, 39);
            state.accept(0, state.offer(0, 0, 1));
        }), call);
        Bounds.refused("there are 40, one of them from a settling", BAD_STATE, Bounds.made(state -> {
            state.vote(Bounds.bond(state, 1, 10, 0), state.offer(0, 0, 9), true);
            Bounds.suppliers(state, 38);
            state.settle(0);
        }), call);
        Bounds.refused("there are 40, one of them from a review", BAD_STATE, Bounds.made(state -> {
            Bounds.suppliers(state, 39);
            state.programme(1, 0, 1);
            state.review();
        }), call);
    }

    // ---- promises 3 and 4: pledge, reveal

    private static void tellPromises3And4(Sentences all) {
        all.test("Promise 3", "Puts money aside for a claim, from the purse", ClaimsAndYearsBounds::pledgeMovesMoney);
        all.test("Promise 3", "`claim`: the number of a claim", ClaimsAndYearsBounds::pledgeClaim);
        all.test("Promise 3", "`cents`: 1 to 1000000", ClaimsAndYearsBounds::pledgeCents);
        all.test("Promise 3", "Returns what lies aside for it then", ClaimsAndYearsBounds::pledgeReturnsWhatLiesAside);
        all.test("Promise 3", "Throws `IndexOutOfBoundsException` if there is no such claim",
            ClaimsAndYearsBounds::pledgeForNoClaim);
        all.test("Promise 3", "Throws `IllegalArgumentException` if cents is out of range",
            ClaimsAndYearsBounds::pledgeOfWrongCents);
        all.test("Promise 3", "if it is not OPEN", ClaimsAndYearsBounds::pledgeForOneNotOpen);
        all.test("Promise 3", "or the purse has less", ClaimsAndYearsBounds::pledgeOfMoreThanThePurseHas);
        all.test("Promise 4", "Reveals a claim", ClaimsAndYearsBounds::revealEndsHiding);
        all.test("Promise 4", "`claim`: the number of a claim", ClaimsAndYearsBounds::revealClaim);
        all.test("Promise 4", "Returns the debt then", ClaimsAndYearsBounds::revealReturnsTheDebt);
        all.test("Promise 4", "Throws `IndexOutOfBoundsException` if there is no such claim",
            ClaimsAndYearsBounds::revealOfNoClaim);
        all.test("Promise 4", "Throws `IllegalStateException` if it is not hidden",
            ClaimsAndYearsBounds::revealOfOneNotHidden);
    }

    private static void pledgeMovesMoney() {
        Claimclub state = new Claimclub();
        Bounds.claim(state, 0, 1, 10, 0, 9);
        state.economy(0, 0, 100);
        state.pledge(0, 1);
        Check.same("the purse", 99, state.ofState(1));
        Check.same("what lies aside", 1, state.ofClaim(0, 5));
        state.pledge(0, 99);
        Check.same("the purse is empty", 0, state.ofState(1));
        Check.same("all lies aside", 100, state.ofClaim(0, 5));
        Bounds.tells("the rest is as it was", state, 0, Claimclub.OPEN, 10, 0, 9, 0);
    }

    private static void pledgeClaim() {
        Bounds.noNumber(Bounds.made(state -> state.economy(0, 0, 100)), (state, claim) -> state.pledge(claim, 1));
        Bounds.numbers(Bounds.made(state -> {
            Bounds.suppliers(state, 40);
            state.economy(0, 0, 100);
        }), 40, (state, claim) -> state.pledge(claim, 1));
        Claimclub state = new Claimclub();
        Bounds.suppliers(state, 40);
        state.economy(0, 0, 100);
        state.pledge(39, 7);
        for (int claim = 0; claim < 40; claim++) {
            Check.same("what lies aside for " + claim, claim == 39 ? 7 : 0, state.ofClaim(claim, 5));
        }
    }

    private static void pledgeCents() {
        Supplier<Claimclub> made = Bounds.made(state -> {
            Bounds.claim(state, 0, 1, 10, 0, 9);
            state.economy(0, 0, 10000000);
        });
        Bounds.range(BAD_ARGUMENT, made, 1, 1000000, (state, cents) -> state.pledge(0, cents));
        Check.same("the least", 1, made.get().pledge(0, 1));
        Check.same("the most", 1000000, made.get().pledge(0, 1000000));
    }

    private static void pledgeReturnsWhatLiesAside() {
        Claimclub state = new Claimclub();
        Bounds.claim(state, 0, 1, 1000, 1000, 9);
        state.economy(0, 0, 2000000);
        Check.same("the first", 150, state.pledge(0, 150));
        Check.same("with one more", 151, state.pledge(0, 1));
        Check.same("with the most", 1000151, state.pledge(0, 1000000));
        state.year(1);
        Check.same("less what was paid from it", 1000052, state.pledge(0, 1));
    }

    private static void pledgeForNoClaim() {
        Supplier<Claimclub> rich = Bounds.made(state -> state.economy(0, 0, 5));
        Bounds.refused("it alone", BAD_INDEX, rich, state -> state.pledge(0, 5));
        Bounds.refused("and cents out of range", BAD_INDEX, rich, state -> state.pledge(0, 0));
        Bounds.refused("and the purse has less", BAD_INDEX, rich, state -> state.pledge(-1, 6));
        Bounds.refused("and both", BAD_INDEX, rich, state -> state.pledge(0, 1000001));
        Bounds.refused("behind the last one", BAD_INDEX, Bounds.made(state -> {
            Bounds.paid(state, Claimclub.CLUB);
        }), state -> state.pledge(1, 1000001));
    }

    private static void pledgeOfWrongCents() {
        Supplier<Claimclub> rich = Bounds.made(state -> {
            Bounds.claim(state, 0, 1, 10, 0, 9);
            state.economy(0, 0, 2000000);
        });
        Bounds.refused("too few, alone", BAD_ARGUMENT, rich, state -> state.pledge(0, 0));
        Bounds.refused("too many, alone", BAD_ARGUMENT, rich, state -> state.pledge(0, 1000001));
        Supplier<Claimclub> poor = Bounds.made(state -> Bounds.claim(state, 0, 1, 10, 0, 9));
        Bounds.refused("too many, and the purse has less", BAD_ARGUMENT, poor, state -> state.pledge(0, 1000001));
        Supplier<Claimclub> over = Bounds.made(state -> Bounds.paid(state, Claimclub.CLUB));
        Bounds.refused("too few, and it is not open", BAD_ARGUMENT, over, state -> state.pledge(0, 0));
        Bounds.refused("below 0, and it is not open", BAD_ARGUMENT, over, state -> state.pledge(0, -1));
    }

    private static void pledgeForOneNotOpen() {
        Bounds.refused("a paid one", BAD_STATE, Bounds.made(state -> {
            Bounds.paid(state, Claimclub.CLUB);
            state.economy(0, 0, 5);
        }), state -> state.pledge(0, 5));
        Bounds.refused("a swapped one", BAD_STATE, Bounds.made(state -> {
            Bounds.claim(state, 0, 1, 10, 0, 9);
            state.accept(0, state.offer(0, 0, 9));
            state.economy(0, 0, 5);
        }), state -> state.pledge(0, 5));
    }

    private static void pledgeOfMoreThanThePurseHas() {
        Supplier<Claimclub> empty = Bounds.made(state -> Bounds.claim(state, 0, 1, 10, 0, 9));
        Bounds.refused("1 of an empty purse", BAD_STATE, empty, state -> state.pledge(0, 1));
        Supplier<Claimclub> some = Bounds.made(state -> {
            Bounds.claim(state, 0, 1, 10, 0, 9);
            state.economy(0, 0, 50);
        });
        Bounds.taken("just what it has", some, state -> state.pledge(0, 50));
        Bounds.refused("1 more", BAD_STATE, some, state -> state.pledge(0, 51));
        Supplier<Claimclub> below = Bounds.made(state -> {
            Bounds.claim(state, 0, 1, 10, 0, 9);
            state.economy(0, -1, 999);
            state.year(1);
        });
        Check.same("a purse below 0", -1, below.get().ofState(1));
        Bounds.refused("of a purse below 0", BAD_STATE, below, state -> state.pledge(0, 1));
    }

    private static void revealEndsHiding() {
        Claimclub state = new Claimclub();
        Bounds.hidden(state, 0, 1, 10);
        Bounds.hidden(state, 0, 1, 7);
        state.reveal(0);
        Check.same("the debt", 10, state.ofState(3));
        state.accept(0, state.offer(0, 0, 9));
        Check.same("its new one is not hidden either", 10, state.ofState(3));
        Bounds.refused("it is hidden no more", BAD_STATE, Bounds.made(made -> {
            Bounds.hidden(made, 0, 1, 10);
            made.reveal(0);
        }), made -> made.reveal(0));
        Check.same("the other one was hidden yet", 17, state.reveal(1));
    }

    private static void revealClaim() {
        Bounds.noNumber(Claimclub::new, (state, claim) -> state.reveal(claim));
        Bounds.numbers(Bounds.made(state -> {
            for (int number = 0; number < 40; number++) {
                Bounds.hidden(state, 0, 1, 1 + number);
            }
        }), 40, (state, claim) -> Check.same("the claim " + claim, 1 + claim, state.reveal(claim)));
    }

    private static void revealReturnsTheDebt() {
        Claimclub state = new Claimclub();
        Bounds.hidden(state, 0, 0, 1000);
        Check.same("of the state's own alone", 0, state.reveal(0));
        Bounds.hidden(state, 1, 1, 10);
        Check.same("of that claim alone", 10, state.reveal(1));
        Bounds.claim(state, 2, 1, 7, 0, 9);
        Bounds.hidden(state, 3, 1, 1000000);
        Check.same("with others", 1000017, state.reveal(3));
        int over = Bounds.hidden(state, 4, 1, 20);
        state.accept(over, state.offer(50, 0, 9));
        Check.same("of a swapped one", 1000017, state.reveal(over));
        Check.same("of its new one", 1000027, state.reveal(over + 1));
    }

    private static void revealOfNoClaim() {
        Bounds.refused("without claims", BAD_INDEX, Claimclub::new, state -> state.reveal(0));
        Supplier<Claimclub> one = Bounds.made(state -> Bounds.hidden(state, 0, 1, 10));
        Bounds.refused("behind the last one", BAD_INDEX, one, state -> state.reveal(1));
        Bounds.refused("ahead of the first one", BAD_INDEX, one, state -> state.reveal(-1));
    }

    private static void revealOfOneNotHidden() {
        Bounds.refused("never hidden", BAD_STATE, Bounds.made(state -> Bounds.claim(state, 0, 1, 10, 0, 9)),
            state -> state.reveal(0));
        Bounds.refused("revealed", BAD_STATE, Bounds.made(state -> {
            Bounds.hidden(state, 0, 1, 10);
            state.reveal(0);
        }), state -> state.reveal(0));
        Bounds.refused("of a review", BAD_STATE, Bounds.made(state -> {
            state.programme(1, 0, 1);
            state.review();
        }), state -> state.reveal(0));
    }

    // ---- promises 5 and 6: economy, moratorium

    private static void tellPromises5And6(Sentences all) {
        all.test("Promise 5", "from now on", ClaimsAndYearsBounds::economyFromNowOn);
        all.test("Promise 5", "brings money to the purse", ClaimsAndYearsBounds::economyBringsMoney);
        all.test("Promise 5", "`growth`: -1000 to 1000", ClaimsAndYearsBounds::economyGrowth);
        all.test("Promise 5", "`balance`: -200 to 200", ClaimsAndYearsBounds::economyBalance);
        all.test("Promise 5", "`cents`: 0 to 10000000", ClaimsAndYearsBounds::economyCents);
        all.test("Promise 5", "Returns the purse then", ClaimsAndYearsBounds::economyReturnsThePurse);
        all.test("Promise 5", "Throws `IllegalArgumentException` if an argument is out of range",
            ClaimsAndYearsBounds::economyWithAWrongArgument);
        all.test("Promise 6", "Tells of a moratorium on a kind", ClaimsAndYearsBounds::moratoriumIsOnThatKind);
        all.test("Promise 6", "`kind`: CLUB to FUND", ClaimsAndYearsBounds::moratoriumKind);
        all.test("Promise 6", "whether there is one then", ClaimsAndYearsBounds::moratoriumIsOnOrOff);
        all.test("Promise 6", "Returns whether that changes something", ClaimsAndYearsBounds::moratoriumTellsOfChange);
        all.test("Promise 6", "Throws `IndexOutOfBoundsException` if there is no such kind",
            ClaimsAndYearsBounds::moratoriumOnNoKind);
    }

    private static void economyFromNowOn() {
        Claimclub state = new Claimclub();
        state.year(1);
        state.economy(100, 10, 0);
        Check.same("not for the years before: the purse", 0, state.ofState(1));
        Check.same("not for the years before: the output", 1000000, state.ofState(2));
        state.year(2);
        Check.same("for the next years: the purse", 10000 + 10100, state.ofState(1));
        Check.same("for the next years: the output", 1020100, state.ofState(2));
        state.economy(0, 0, 0);
        state.year(3);
        Check.same("till it is told anew: the purse", 20100, state.ofState(1));
        Check.same("till it is told anew: the output", 1020100, state.ofState(2));
    }

    private static void economyBringsMoney() {
        Claimclub state = new Claimclub();
        state.economy(0, 0, 1);
        state.economy(0, 0, 20);
        Check.same("both times", 21, state.ofState(1));
        state.year(10);
        Check.same("but once each", 21, state.ofState(1));
    }

    private static void economyGrowth() {
        Bounds.range(BAD_ARGUMENT, Claimclub::new, -1000, 1000, (state, growth) -> state.economy(growth, 0, 0));
        for (int growth : new int[] {-1000, -999, -1, 0, 1, 999, 1000}) {
            Claimclub state = new Claimclub();
            state.economy(growth, 0, 0);
            state.year(1);
            Check.same("the output with " + growth, 1000000 + 100 * growth, state.ofState(2));
        }
    }

    private static void economyBalance() {
        Bounds.range(BAD_ARGUMENT, Claimclub::new, -200, 200, (state, balance) -> state.economy(0, balance, 0));
        for (int balance : new int[] {-200, -199, -1, 0, 1, 199, 200}) {
            Claimclub state = new Claimclub();
            state.economy(0, balance, 0);
            state.year(1);
            Check.same("the purse with " + balance, 1000 * balance, state.ofState(1));
        }
    }

    private static void economyCents() {
        Bounds.range(BAD_ARGUMENT, Claimclub::new, 0, 10000000, (state, cents) -> state.economy(0, 0, cents));
        for (int cents : new int[] {0, 1, 9999999, 10000000}) {
            Claimclub state = new Claimclub();
            state.economy(0, 0, cents);
            Check.same("the purse with " + cents, cents, state.ofState(1));
        }
    }

    private static void economyReturnsThePurse() {
        Claimclub state = new Claimclub();
        Check.same("an empty one", 0, state.economy(0, -1, 0));
        state.year(1);
        Check.same("below 0", -1000, state.economy(0, 0, 0));
        Check.same("below 0, with money", -1, state.economy(0, 0, 999));
        Check.same("0 again", 0, state.economy(0, 0, 1));
        long purse = 0;
        for (int call = 0; call < 300; call++) {
            purse += 10000000;
            Check.same("above the numbers of int, too", purse, state.economy(0, 0, 10000000));
        }
    }

    private static void economyWithAWrongArgument() {
        Supplier<Claimclub> made = Bounds.made(state -> state.economy(7, 3, 50));
        Bounds.refused("growth alone", BAD_ARGUMENT, made, state -> state.economy(1001, 1, 1));
        Bounds.refused("balance alone", BAD_ARGUMENT, made, state -> state.economy(1, -201, 1));
        Bounds.refused("cents alone", BAD_ARGUMENT, made, state -> state.economy(1, 1, -1));
        Bounds.refused("growth and balance", BAD_ARGUMENT, made, state -> state.economy(-1001, 201, 1));
        Bounds.refused("balance and cents", BAD_ARGUMENT, made, state -> state.economy(1, 201, 10000001));
        Bounds.refused("all of them", BAD_ARGUMENT, made, state -> state.economy(-1001, -201, -1));
    }

    /** One claim of each kind, of 10 each, due in the next year, and money for all. */
    private static Claimclub oneOfEachKind() {
        Claimclub state = new Claimclub();
        for (int kind = Claimclub.CLUB; kind <= Claimclub.FUND; kind++) {
            Bounds.claim(state, kind, 1, 10, 0, 1);
        }
        state.economy(0, 0, 1000);
        return state;
    }

    private static void moratoriumIsOnThatKind() {
        for (int kind = Claimclub.CLUB; kind <= Claimclub.FUND; kind++) {
            Claimclub state = oneOfEachKind();
            state.moratorium(kind, true);
            Check.same("all others are paid", 40, state.year(1));
            Check.same("that kind is not", 10, state.ofClaim(kind, 2));
        }
    }

    private static void moratoriumKind() {
        Bounds.range(BAD_INDEX, Claimclub::new, Claimclub.CLUB, Claimclub.FUND,
            (state, kind) -> state.moratorium(kind, true));
        Claimclub state = oneOfEachKind();
        for (int kind = Claimclub.CLUB; kind <= Claimclub.FUND; kind++) {
            state.moratorium(kind, true);
        }
        Check.same("on all kinds", 0, state.year(1));
    }

    private static void moratoriumIsOnOrOff() {
        Claimclub state = oneOfEachKind();
        state.moratorium(Claimclub.CLUB, true);
        state.moratorium(Claimclub.FUND, true);
        state.moratorium(Claimclub.CLUB, false);
        Check.same("one is on then", 40, state.year(1));
        state.moratorium(Claimclub.FUND, false);
        Check.same("none is on then", 10, state.year(1));
    }

    private static void moratoriumTellsOfChange() {
        for (int kind = Claimclub.CLUB; kind <= Claimclub.FUND; kind++) {
            Claimclub state = new Claimclub();
            Check.same("off, at first", false, state.moratorium(kind, false));
            Check.same("on", true, state.moratorium(kind, true));
            Check.same("on, again", false, state.moratorium(kind, true));
            Check.same("off", true, state.moratorium(kind, false));
            Check.same("off, again", false, state.moratorium(kind, false));
        }
    }

    private static void moratoriumOnNoKind() {
        for (int kind : new int[] {-1, 5}) {
            Bounds.refused("on, " + kind, BAD_INDEX, Claimclub::new, state -> state.moratorium(kind, true));
            Bounds.refused("off, " + kind, BAD_INDEX, Claimclub::new, state -> state.moratorium(kind, false));
        }
    }

    // ---- promise 7: year

    private static void tellPromise7(Sentences all) {
        all.test("Promise 7", "Lets years go by", ClaimsAndYearsBounds::yearGoesBy);
        all.test("Promise 7", "`years`: 1 to 10", ClaimsAndYearsBounds::yearYears);
        all.test("Promise 7", "Returns what is paid to claims in them", ClaimsAndYearsBounds::yearReturnsWhatIsPaid);
        all.test("Promise 7", "from pledges too", ClaimsAndYearsBounds::yearReturnsWhatIsPaidFromPledges);
        all.test("Promise 7", "Throws `IllegalArgumentException` if years is out of range",
            ClaimsAndYearsBounds::yearOfWrongYears);
        all.test("Promise 7", "Throws `IllegalStateException` if the year would be above 60",
            ClaimsAndYearsBounds::yearAboveSixty);
    }

    private static void yearGoesBy() {
        Claimclub state = new Claimclub();
        long due = 0;
        for (int years : new int[] {1, 10, 9, 2, 10, 10, 10, 8}) {
            state.year(years);
            due += years;
            Check.same("the year", due, state.ofState(0));
        }
        Check.same("the last year", 60, due);
    }

    private static void yearYears() {
        Bounds.range(BAD_ARGUMENT, Bounds.made(state -> Bounds.claim(state, 0, 1, 1000, 1000, 9)), 1, 10,
            (state, years) -> state.year(years));
        Claimclub ten = new Claimclub();
        ten.economy(0, 1, 0);
        ten.year(10);
        Check.same("ten of them", 10000, ten.ofState(1));
        Claimclub one = new Claimclub();
        one.economy(0, 1, 0);
        one.year(1);
        Check.same("one of them", 1000, one.ofState(1));
    }

    private static void yearReturnsWhatIsPaid() {
        Claimclub state = new Claimclub();
        state.economy(0, 0, 1000);
        Check.same("without claims", 0, state.year(10));
        Bounds.claim(state, 0, 1, 100, 1000, 2);
        Bounds.claim(state, 3, 1, 200, 1000, 3);
        Check.same("the coupons", 30, state.year(1));
        Check.same("in two years", 110 + 20 + 220, state.year(2));
        Check.same("when all are paid", 0, state.year(10));
        Check.same("the purse", 1000 - 380, state.ofState(1));
    }

    private static void yearReturnsWhatIsPaidFromPledges() {
        Claimclub state = new Claimclub();
        Bounds.claim(state, 0, 1, 100, 1000, 9);
        state.economy(0, 0, 25);
        state.pledge(0, 25);
        Check.same("from the pledge alone", 10, state.year(1));
        state.economy(0, 0, 3);
        Check.same("from both, in two years", 10 + 5 + 3, state.year(2));
        Check.same("from neither", 0, state.year(1));
        Check.same("not what comes back from a pledge", 0, pledgeThatComesBack().year(1));
    }

    private static Claimclub pledgeThatComesBack() {
        Claimclub state = new Claimclub();
        Bounds.claim(state, 0, 0, 100, 0, 1);
        state.economy(0, 0, 25);
        state.pledge(0, 25);
        return state;
    }

    private static void yearOfWrongYears() {
        Supplier<Claimclub> early = Claimclub::new;
        Bounds.refused("too few, alone", BAD_ARGUMENT, early, state -> state.year(0));
        Bounds.refused("below 0, alone", BAD_ARGUMENT, early, state -> state.year(-1));
        Bounds.refused("too many, alone", BAD_ARGUMENT, early, state -> state.year(11));
        Supplier<Claimclub> last = Bounds.made(state -> yearsTo(state, 60));
        Bounds.refused("too many, and the year would be above 60", BAD_ARGUMENT, last, state -> state.year(11));
        Bounds.refused("the most of int, in the last year", BAD_ARGUMENT, last, state -> state.year(Integer.MAX_VALUE));
        Bounds.refused("too few, in the last year", BAD_ARGUMENT, last, state -> state.year(0));
    }

    private static void yearAboveSixty() {
        for (int years = 1; years <= 10; years++) {
            int called = years;
            Supplier<Claimclub> fits = Bounds.made(state -> yearsTo(state, 60 - called));
            Bounds.taken("to 60, by " + years, fits, state -> state.year(called));
            Supplier<Claimclub> doesNot = Bounds.made(state -> {
                Bounds.claim(state, 0, 1, 1000, 1000, 30);
                state.economy(100, 5, 50);
                yearsTo(state, 61 - called);
            });
            Bounds.refused("to 61, by " + years, BAD_STATE, doesNot, state -> state.year(called));
        }
        Bounds.refused("to 70", BAD_STATE, Bounds.made(state -> yearsTo(state, 60)), state -> state.year(10));
    }

    private static void yearsTo(Claimclub state, int last) {
        while (state.ofState(0) < last) {
            state.year(1);
        }
    }
}
