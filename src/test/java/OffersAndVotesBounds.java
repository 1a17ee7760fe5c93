import java.util.function.Consumer;
import java.util.function.Supplier;

/** Promises 8 to 12, sentence by sentence, at their bounds. */
final class OffersAndVotesBounds {
    private static final Class<? extends RuntimeException> BAD_INDEX = Check.BAD_INDEX;
    private static final Class<? extends RuntimeException> BAD_ARGUMENT = Check.BAD_ARGUMENT;
    private static final Class<? extends RuntimeException> BAD_STATE = Check.BAD_STATE;
    private static final int[] NO_BONDS = {Claimclub.CLUB, Claimclub.BANK, Claimclub.SUPPLIER, Claimclub.FUND};

    private OffersAndVotesBounds() {
    }

    static void tell(Sentences all) {
        tellPromises8And9(all);
        tellPromise10(all);
        tellPromise11(all);
        tellPromise12(all);
    }

    // ---- promises 8 and 9: discount, offer

    private static void tellPromises8And9(Sentences all) {
        all.test("Promise 8", "Sets the discount", OffersAndVotesBounds::discountIsSet);
        all.test("Promise 8", "`rate`: 0 to 1500", OffersAndVotesBounds::discountRate);
        all.test("Promise 8", "Returns the one before", OffersAndVotesBounds::discountReturnsTheOneBefore);
        all.test("Promise 8", "Throws `IllegalArgumentException` if rate is out of range",
            OffersAndVotesBounds::discountOfAWrongRate);
        all.test("Promise 9", "Makes an offer", OffersAndVotesBounds::offerIsMade);
        all.test("Promise 9", "`cut`: 0 to 99", OffersAndVotesBounds::offerCut);
        all.test("Promise 9", "`coupon`: 0 to 1000", OffersAndVotesBounds::offerCoupon);
        all.test("Promise 9", "`years`: 1 to 30", OffersAndVotesBounds::offerYears);
        all.test("Promise 9", "Returns its number", OffersAndVotesBounds::offerReturnsItsNumber);
        all.test("Promise 9", "Throws `IllegalArgumentException` if cut, coupon or years is out of range",
            OffersAndVotesBounds::offerWithAWrongArgument);
        all.test("Promise 9", "Throws `IllegalStateException` if there are 12", OffersAndVotesBounds::offerAmongTwelve);
    }

    private static void discountIsSet() {
        Claimclub state = new Claimclub();
        Bounds.claim(state, 0, 1, 1000, 0, 9);
        state.economy(0, 10, 0);
        // 1000 is less by the balance, 10000, whatever the discount; 1000000 is not.
        Check.same("a small debt", true, state.isBearable(1));
        Bounds.claim(state, 0, 1, 999000, 0, 9);
        state.discount(100);
        Check.same("as much more as less", true, state.isBearable(30));
        state.discount(101);
        Check.same("100 more than less", false, state.isBearable(1));
        state.discount(0);
        Check.same("less alone", true, state.isBearable(1));
    }

    private static void discountRate() {
        Bounds.range(BAD_ARGUMENT, Claimclub::new, 0, 1500, (state, rate) -> state.discount(rate));
        long[] worths = {100000, 99990, 86964, 86956};
        int[] rates = {0, 1, 1499, 1500};
        for (int i = 0; i < rates.length; i++) {
            Claimclub state = new Claimclub();
            state.discount(rates[i]);
            Bounds.claim(state, 0, 1, 100000, 0, 1);
            Check.same("the value at " + rates[i], worths[i], state.value(0, rates[i]));
            state.accept(0, state.offer(50, 0, 1));
            long effort = 10000 - 10000 * state.value(1, rates[i]) / worths[i];
            Check.same("the effort at " + rates[i], effort, state.effort(0));
        }
    }

    private static void discountReturnsTheOneBefore() {
        Claimclub state = new Claimclub();
        Check.same("at first", 800, state.discount(1500));
        Check.same("the most", 1500, state.discount(0));
        Check.same("the least", 0, state.discount(0));
        Check.same("the least, set twice", 0, state.discount(1));
        Check.same("one", 1, state.discount(800));
    }

    private static void discountOfAWrongRate() {
        Supplier<Claimclub> made = Bounds.made(state -> state.discount(5));
        Bounds.refused("too small", BAD_ARGUMENT, made, state -> state.discount(-1));
        Bounds.refused("too large", BAD_ARGUMENT, made, state -> state.discount(1501));
    }

    private static void offerIsMade() {
        Claimclub state = new Claimclub();
        Bounds.claim(state, 0, 1, 1000, 0, 9);
        Check.same("there is none yet", 0, Seen.offers(state));
        state.offer(50, 100, 3);
        Check.same("there is one", 1, Seen.offers(state));
        Bounds.tells("the claim is as it was", state, 0, Claimclub.OPEN, 1000, 0, 9, 0, 0, 0, Claimclub.NONE);
        Check.same("what it would bring", 500 + 3 * 5, state.offered(0, 0, 0));
        Check.same("no one voted yet", false, state.passes(0, 0));
    }

    private static void offerCut() {
        Supplier<Claimclub> made = Bounds.made(state -> Bounds.claim(state, 0, 1, 1000, 0, 9));
        Bounds.range(BAD_ARGUMENT, made, 0, 99, (state, cut) -> state.offer(cut, 0, 1));
        for (int cut : new int[] {0, 1, 50, 98, 99}) {
            Claimclub state = made.get();
            state.accept(0, state.offer(cut, 0, 1));
            Check.same("a cut of " + cut, 10 * (100 - cut), state.ofClaim(1, 1));
        }
    }

    private static void offerCoupon() {
        Supplier<Claimclub> made = Bounds.made(state -> Bounds.claim(state, 0, 1, 100000, 0, 9));
        Bounds.range(BAD_ARGUMENT, made, 0, 1000, (state, coupon) -> state.offer(0, coupon, 1));
        for (int coupon : new int[] {0, 1, 999, 1000}) {
            Claimclub state = made.get();
            state.accept(0, state.offer(0, coupon, 2));
            state.year(1);
            Check.same("a coupon of " + coupon, 10 * coupon, state.ofClaim(1, 2));
        }
    }

    private static void offerYears() {
        Supplier<Claimclub> made = Bounds.made(state -> {
            Bounds.claim(state, 0, 1, 100000, 0, 9);
            state.year(5);
        });
        Bounds.range(BAD_ARGUMENT, made, 1, 30, (state, years) -> state.offer(0, 0, years));
        for (int years : new int[] {1, 2, 29, 30}) {
            Claimclub state = made.get();
            state.accept(0, state.offer(0, 0, years));
            Check.same("due in " + years, 5 + years, state.ofClaim(1, 3));
        }
    }

    private static void offerReturnsItsNumber() {
        Claimclub state = new Claimclub();
        for (int number = 0; number < 12; number++) {
            Check.same("the next number", number, state.offer(number, 10 * number, 1 + number));
        }
        int claim = Bounds.claim(state, 0, 1, 100, 0, 9);
        for (int number = 0; number < 12; number++) {
            Check.same("the offer of that number", 100 - number, state.offered(claim, number, 0));
        }
    }

    private static void refuseWrongArguments(Supplier<Claimclub> made) {
        Bounds.refused("cut, too small", BAD_ARGUMENT, made, state -> state.offer(-1, 0, 1));
        Bounds.refused("cut, too large", BAD_ARGUMENT, made, state -> state.offer(100, 0, 1));
        Bounds.refused("coupon, too small", BAD_ARGUMENT, made, state -> state.offer(0, -1, 1));
        Bounds.refused("coupon, too large", BAD_ARGUMENT, made, state -> state.offer(0, 1001, 1));
        Bounds.refused("years, too few", BAD_ARGUMENT, made, state -> state.offer(0, 0, 0));
        Bounds.refused("years, too many", BAD_ARGUMENT, made, state -> state.offer(0, 0, 31));
        Bounds.refused("all of them, too small", BAD_ARGUMENT, made, state -> state.offer(-1, -1, 0));
        Bounds.refused("all of them, too large", BAD_ARGUMENT, made, state -> state.offer(100, 1001, 31));
    }

    private static void offerWithAWrongArgument() {
        refuseWrongArguments(Claimclub::new);
        refuseWrongArguments(Bounds.made(state -> Bounds.offers(state, 11)));
        // With 12 the IllegalStateException stands behind it.
        refuseWrongArguments(Bounds.made(state -> Bounds.offers(state, 12)));
    }

    private static void offerAmongTwelve() {
        Bounds.taken("there are 11", Bounds.made(state -> Bounds.offers(state, 11)), state -> state.offer(0, 0, 1));
        Bounds.refused("there are 12", BAD_STATE, Bounds.made(state -> Bounds.offers(state, 12)),
            state -> state.offer(0, 0, 1));
        Bounds.refused("there are 12, settled and accepted", BAD_STATE, Bounds.made(state -> {
            Bounds.offers(state, 12);
            Bounds.claim(state, 0, 1, 100, 0, 9);
            state.accept(0, 0);
            state.settle(1);
        }), state -> state.offer(99, 1000, 30));
    }

    // ---- promise 10: accept

    private static void tellPromise10(Sentences all) {
        all.test("Promise 10", "it is swapped", OffersAndVotesBounds::acceptSwaps);
        all.test("Promise 10", "for a claim that is no BOND", OffersAndVotesBounds::acceptForEachKindButBonds);
        all.test("Promise 10", "`claim`: the number of a claim", OffersAndVotesBounds::acceptClaim);
        all.test("Promise 10", "`offer`: the number of an offer", OffersAndVotesBounds::acceptOffer);
        all.test("Promise 10", "Returns the number of the new claim", OffersAndVotesBounds::acceptReturnsTheNewNumber);
        all.test("Promise 10", "Throws `IndexOutOfBoundsException` if there is no such claim or offer",
            OffersAndVotesBounds::acceptOfNoClaimOrOffer);
        all.test("Promise 10", "if it is a BOND", OffersAndVotesBounds::acceptOfABond);
        all.test("Promise 10", "is not OPEN", OffersAndVotesBounds::acceptOfOneNotOpen);
        all.test("Promise 10", "or there are 40", OffersAndVotesBounds::acceptAmongForty);
    }

    private static void acceptSwaps() {
        Claimclub state = new Claimclub();
        Bounds.claim(state, 0, 1, 1000, 500, 9);
        state.accept(0, state.offer(10, 200, 4));
        Bounds.tells("the old one", state, 0, Claimclub.SWAPPED, 1000, 0, 9, 0, 0, 0, Claimclub.NONE);
        Bounds.tells("the new one", state, 1, Claimclub.OPEN, 900, 0, 4, 0, 0, 0, 0);
        Check.same("there are two then", 2, Seen.claims(state));
    }

    private static void acceptForEachKindButBonds() {
        for (int kind : NO_BONDS) {
            Claimclub state = new Claimclub();
            Bounds.claim(state, kind, 1, 1000, 0, 9);
            Check.same("kind " + kind, 1, state.accept(0, state.offer(0, 0, 1)));
        }
        Bounds.refused("not for a bond", BAD_STATE, Bounds.made(state -> {
            Bounds.bond(state, 1, 1000, 0);
            Bounds.offers(state, 1);
        }), state -> state.accept(0, 0));
    }

    private static void acceptClaim() {
        Bounds.noNumber(Bounds.made(state -> Bounds.offers(state, 1)), (state, claim) -> state.accept(claim, 0));
        Bounds.numbers(Bounds.made(state -> {
            Bounds.suppliers(state, 39);
            Bounds.offers(state, 1);
        }), 39, (state, claim) -> state.accept(claim, 0));
        Claimclub state = new Claimclub();
        Bounds.suppliers(state, 39);
        Bounds.offers(state, 1);
        state.accept(38, 0);
        Check.same("that claim", Claimclub.SWAPPED, state.ofClaim(38, 0));
        Check.same("and none beside it", Claimclub.OPEN, state.ofClaim(37, 0));
    }

    private static void acceptOffer() {
        Bounds.noNumber(Bounds.made(state -> Bounds.suppliers(state, 1)), (state, offer) -> state.accept(0, offer));
        Supplier<Claimclub> made = Bounds.made(state -> {
            Bounds.claim(state, 0, 1, 100, 0, 9);
            for (int cut = 0; cut < 12; cut++) {
                state.offer(cut, 0, 1);
            }
        });
        Bounds.numbers(made, 12, (state, offer) -> state.accept(0, offer));
        for (int offer = 0; offer < 12; offer++) {
            Claimclub state = made.get();
            Check.same("by the offer " + offer, 100 - offer, state.ofClaim(state.accept(0, offer), 1));
        }
    }

    private static void acceptReturnsTheNewNumber() {
        Claimclub state = new Claimclub();
        Bounds.suppliers(state, 3);
        Bounds.offers(state, 1);
        for (int number = 3; number < 40; number++) {
            int old = number == 3 ? 1 : number - 1;
            Check.same("the next number", number, state.accept(old, 0));
            Check.same("swapped from", old, state.ofClaim(number, 7));
        }
    }

    private static void acceptOfNoClaimOrOffer() {
        Supplier<Claimclub> made = Bounds.made(state -> {
            Bounds.suppliers(state, 2);
            Bounds.offers(state, 2);
        });
        Bounds.refused("no claim, alone", BAD_INDEX, made, state -> state.accept(2, 1));
        Bounds.refused("no offer, alone", BAD_INDEX, made, state -> state.accept(1, 2));
        Bounds.refused("neither", BAD_INDEX, made, state -> state.accept(-1, -1));
        Bounds.refused("no offer, and it is a bond", BAD_INDEX, Bounds.made(state -> Bounds.bond(state, 1, 10, 0)),
            state -> state.accept(0, 0));
        Bounds.refused("no offer, and it is not open", BAD_INDEX,
            Bounds.made(state -> Bounds.paid(state, Claimclub.CLUB)), state -> state.accept(0, 0));
        Supplier<Claimclub> full = Bounds.made(state -> {
            Bounds.suppliers(state, 40);
            Bounds.offers(state, 12);
        });
        Bounds.refused("no offer, and there are 40", BAD_INDEX, full, state -> state.accept(0, 12));
        Bounds.refused("no claim, and there are 40", BAD_INDEX, full, state -> state.accept(40, 0));
    }

    private static void acceptOfABond() {
        Consumer<Claimclub> call = state -> state.accept(0, 0);
        Bounds.refused("one of a lender", BAD_STATE, Bounds.made(state -> {
            Bounds.bond(state, 1, 10, 3);
            Bounds.offers(state, 1);
        }), call);
        Bounds.refused("the state's own", BAD_STATE, Bounds.made(state -> {
            Bounds.bond(state, 0, 10, 0);
            Bounds.offers(state, 1);
        }), call);
        Bounds.refused("with a yes that makes it pass", BAD_STATE, Bounds.made(state -> {
            Bounds.bond(state, 1, 10, 0);
            Bounds.offers(state, 1);
            state.vote(0, 0, true);
        }), call);
        Bounds.refused("and there are 40", BAD_STATE, Bounds.made(state -> {
            Bounds.bonds(state, 40, 10, 0);
            Bounds.offers(state, 1);
        }), call);
    }

    private static void acceptOfOneNotOpen() {
        Bounds.refused("a paid one", BAD_STATE, Bounds.made(state -> {
            Bounds.paid(state, Claimclub.CLUB);
            Bounds.offers(state, 1);
        }), state -> state.accept(0, 0));
        Supplier<Claimclub> swapped = Bounds.made(state -> {
            Bounds.suppliers(state, 1);
            Bounds.offers(state, 2);
            state.accept(0, 0);
        });
        Bounds.refused("a swapped one", BAD_STATE, swapped, state -> state.accept(0, 0));
        Bounds.refused("a swapped one, by another offer", BAD_STATE, swapped, state -> state.accept(0, 1));
        Bounds.taken("but its new one", swapped, state -> state.accept(1, 1));
    }

    private static void acceptAmongForty() {
        Bounds.taken("there are 39", Bounds.made(state -> {
            Bounds.suppliers(state, 39);
            Bounds.offers(state, 1);
        }), state -> state.accept(0, 0));
        Bounds.refused("there are 40", BAD_STATE, Bounds.made(state -> {
            Bounds.suppliers(state, 40);
            Bounds.offers(state, 1);
        }), state -> state.accept(0, 0));
        Bounds.refused("there are 40, for the new one made room", BAD_STATE, Bounds.made(state -> {
            Bounds.suppliers(state, 39);
            Bounds.offers(state, 1);
            state.accept(0, 0);
        }), state -> state.accept(39, 0));
    }

    // ---- promise 11: vote

    private static void tellPromise11(Sentences all) {
        all.test("Promise 11", "Votes.", OffersAndVotesBounds::voteIsTold);
        all.test("Promise 11", "`claim`: the number of a claim", OffersAndVotesBounds::voteClaim);
        all.test("Promise 11", "`offer`: the number of an offer", OffersAndVotesBounds::voteOffer);
        all.test("Promise 11", "`isYes`: whether the vote is a yes", OffersAndVotesBounds::voteIsYesOrNo);
        all.test("Promise 11", "Throws `IndexOutOfBoundsException` if there is no such claim or offer",
            OffersAndVotesBounds::voteOfNoClaimOrOffer);
        all.test("Promise 11", "if it is no BOND", OffersAndVotesBounds::voteOfNoBond);
        all.test("Promise 11", "is the state's own", OffersAndVotesBounds::voteOfTheStatesOwn);
        all.test("Promise 11", "or is not OPEN", OffersAndVotesBounds::voteOfOneNotOpen);
    }

    private static void voteIsTold() {
        Claimclub state = new Claimclub();
        Bounds.bond(state, 1, 10, 0);
        Bounds.offers(state, 2);
        state.vote(0, 0, true);
        Check.same("of that offer", true, state.passes(0, 0));
        Check.same("not of another one", false, state.passes(1, 0));
        Bounds.tells("the claim is as it was", state, 0, Claimclub.OPEN, 10, 0, 9, 0, 0, 0, Claimclub.NONE);
    }

    private static void voteClaim() {
        Bounds.noNumber(Bounds.made(state -> Bounds.offers(state, 1)), (state, claim) -> state.vote(claim, 0, true));
        Supplier<Claimclub> forty = Bounds.made(state -> {
            Bounds.bonds(state, 40, 10, 0);
            Bounds.offers(state, 1);
        });
        Bounds.numbers(forty, 40, (state, claim) -> state.vote(claim, 0, true));
        // 0 and 32, 7 and 39 are the same places in a number of 32 bits.
        Claimclub state = forty.get();
        for (int claim = 10; claim < 40; claim++) {
            Check.same("30 of 40 are not there yet", false, state.passes(0, 0));
            state.vote(claim, 0, true);
        }
        Check.same("30 of 40", true, state.passes(0, 0));
        state.vote(0, 0, false);
        state.vote(7, 0, false);
        Check.same("a no of 0 is none of 32, one of 7 none of 39", true, state.passes(0, 0));
        state.vote(39, 0, false);
        Check.same("a no of 39", false, state.passes(0, 0));
        state.vote(0, 0, true);
        Check.same("a yes of 0", true, state.passes(0, 0));
    }

    private static void voteOffer() {
        Bounds.noNumber(Bounds.made(state -> Bounds.bonds(state, 1, 10, 0)),
            (state, offer) -> state.vote(0, offer, true));
        Supplier<Claimclub> twelve = Bounds.made(state -> {
            Bounds.bonds(state, 1, 10, 0);
            Bounds.offers(state, 12);
        });
        Bounds.numbers(twelve, 12, (state, offer) -> state.vote(0, offer, true));
        for (int voted = 0; voted < 12; voted++) {
            Claimclub state = twelve.get();
            state.vote(0, voted, true);
            for (int offer = 0; offer < 12; offer++) {
                Check.same("a yes to " + voted + ", asked of " + offer, voted == offer, state.passes(offer, 0));
            }
        }
    }

    private static void voteIsYesOrNo() {
        Claimclub state = new Claimclub();
        Bounds.bonds(state, 1, 10, 0);
        Bounds.offers(state, 1);
        Check.same("no vote", false, state.passes(0, 0));
        state.vote(0, 0, false);
        Check.same("a no", false, state.passes(0, 0));
        state.vote(0, 0, true);
        Check.same("a yes", true, state.passes(0, 0));
    }

    private static void voteOfNoClaimOrOffer() {
        Supplier<Claimclub> made = Bounds.made(state -> {
            Bounds.bonds(state, 2, 10, 0);
            Bounds.offers(state, 2);
        });
        for (boolean isYes : new boolean[] {true, false}) {
            Bounds.refused("no claim, alone", BAD_INDEX, made, state -> state.vote(2, 1, isYes));
            Bounds.refused("no offer, alone", BAD_INDEX, made, state -> state.vote(1, 2, isYes));
            Bounds.refused("neither", BAD_INDEX, made, state -> state.vote(-1, -1, isYes));
            Bounds.refused("no offer, and it is no bond", BAD_INDEX, Bounds.made(state -> Bounds.suppliers(state, 1)),
                state -> state.vote(0, 0, isYes));
            Bounds.refused("no offer, and it is the state's own", BAD_INDEX,
                Bounds.made(state -> Bounds.bond(state, 0, 10, 0)), state -> state.vote(0, 0, isYes));
            Bounds.refused("no offer, and it is not open", BAD_INDEX,
                Bounds.made(state -> Bounds.paid(state, Claimclub.BOND)), state -> state.vote(0, 0, isYes));
        }
    }

    private static void voteOfNoBond() {
        for (int kind : NO_BONDS) {
            Supplier<Claimclub> made = Bounds.made(state -> {
                Bounds.claim(state, kind, 1, 10, 0, 9);
                Bounds.offers(state, 1);
            });
            Bounds.refused("a yes of the kind " + kind, BAD_STATE, made, state -> state.vote(0, 0, true));
            Bounds.refused("a no of the kind " + kind, BAD_STATE, made, state -> state.vote(0, 0, false));
        }
    }

    private static void voteOfTheStatesOwn() {
        Supplier<Claimclub> made = Bounds.made(state -> {
            Bounds.bond(state, 0, 10, 0);
            Bounds.bond(state, 7, 10, 0);
            Bounds.offers(state, 1);
        });
        Bounds.refused("a yes", BAD_STATE, made, state -> state.vote(0, 0, true));
        Bounds.refused("a no", BAD_STATE, made, state -> state.vote(0, 0, false));
        Bounds.taken("but one of the last lender", made, state -> state.vote(1, 0, true));
    }

    private static void voteOfOneNotOpen() {
        Supplier<Claimclub> paid = Bounds.made(state -> {
            Bounds.paid(state, Claimclub.BOND);
            Bounds.offers(state, 1);
        });
        Bounds.refused("a paid one, a yes", BAD_STATE, paid, state -> state.vote(0, 0, true));
        Bounds.refused("a paid one, a no", BAD_STATE, paid, state -> state.vote(0, 0, false));
        Supplier<Claimclub> swapped = Bounds.made(state -> {
            Bounds.bonds(state, 1, 10, 0);
            Bounds.offers(state, 2);
            state.vote(0, 0, true);
            state.settle(0);
        });
        Bounds.refused("a swapped one, a yes", BAD_STATE, swapped, state -> state.vote(0, 1, true));
        Bounds.refused("a swapped one, a no", BAD_STATE, swapped, state -> state.vote(0, 0, false));
        Bounds.taken("but its new one", swapped, state -> state.vote(1, 0, true));
    }

    // ---- promise 12: settle

    private static void tellPromise12(Sentences all) {
        all.test("Promise 12", "Settles the votes of an offer", OffersAndVotesBounds::settleOfThatOffer);
        all.test("Promise 12", "`offer`: the number of an offer", OffersAndVotesBounds::settleOffer);
        all.test("Promise 12", "Returns how many claims are swapped", OffersAndVotesBounds::settleReturnsHowMany);
        all.test("Promise 12", "Throws `IndexOutOfBoundsException` if there is no such offer",
            OffersAndVotesBounds::settleOfNoOffer);
        all.test("Promise 12", "Throws `IllegalStateException` if there would be more than 40",
            OffersAndVotesBounds::settleToMoreThanForty);
    }

    private static void settleOfThatOffer() {
        Claimclub state = new Claimclub();
        Bounds.bonds(state, 1, 1000, 0);
        state.offer(10, 0, 3);
        state.offer(20, 0, 4);
        state.vote(0, 0, false);
        state.vote(0, 1, true);
        Check.same("the one that fails", 0, state.settle(0));
        Check.same("the one that passes", 1, state.settle(1));
        Bounds.tells("by that offer", state, 1, Claimclub.OPEN, 800, 0, 4, 0, 0, 0, 0);
    }

    private static void settleOffer() {
        Bounds.noNumber(Bounds.made(state -> Bounds.bonds(state, 1, 10, 0)), (state, offer) -> state.settle(offer));
        Supplier<Claimclub> made = Bounds.made(state -> {
            Bounds.bonds(state, 1, 100, 0);
            for (int offer = 0; offer < 12; offer++) {
                state.offer(offer, 0, 1);
                state.vote(0, offer, true);
            }
        });
        Bounds.numbers(made, 12, (state, offer) -> state.settle(offer));
        for (int offer = 0; offer < 12; offer++) {
            Claimclub state = made.get();
            state.settle(offer);
            Check.same("by the offer " + offer, 100 - offer, state.ofClaim(1, 1));
        }
    }

    private static void settleReturnsHowMany() {
        Claimclub none = new Claimclub();
        Bounds.offers(none, 1);
        Check.same("without claims", 0, none.settle(0));
        Bounds.bonds(none, 3, 10, 1);
        Check.same("without votes", 0, none.settle(0));
        for (int count = 1; count <= 20; count++) {
            Claimclub state = new Claimclub();
            Bounds.offers(state, 1);
            Bounds.bonds(state, count, 10, 1);
            for (int claim = 0; claim < count; claim++) {
                state.vote(claim, 0, true);
            }
            Check.same("all of " + count, count, state.settle(0));
            Check.same("so many more claims", 2 * count, Seen.claims(state));
        }
    }

    private static void settleOfNoOffer() {
        Supplier<Claimclub> full = Bounds.made(state -> {
            Bounds.bonds(state, 40, 10, 0);
            Bounds.offers(state, 1);
            for (int claim = 0; claim < 40; claim++) {
                state.vote(claim, 0, true);
            }
        });
        Bounds.refused("alone", BAD_INDEX, Claimclub::new, state -> state.settle(0));
        Bounds.refused("behind the last one, and there would be more than 40", BAD_INDEX, full,
            state -> state.settle(1));
        Bounds.refused("ahead of the first one", BAD_INDEX, full, state -> state.settle(-1));
    }

    /** So many bonds with a yes each, and suppliers to that sum. */
    private static Supplier<Claimclub> votedAmong(int bonds, int claims) {
        return Bounds.made(state -> {
            Bounds.offers(state, 1);
            Bounds.bonds(state, bonds, 10, 2);
            Bounds.suppliers(state, claims - bonds);
            for (int claim = 0; claim < bonds; claim++) {
                state.vote(claim, 0, true);
            }
        });
    }

    private static void settleToMoreThanForty() {
        Consumer<Claimclub> settle = state -> state.settle(0);
        Bounds.taken("39 and 1", votedAmong(1, 39), settle);
        Bounds.refused("39 and 2", BAD_STATE, votedAmong(2, 39), settle);
        Bounds.refused("40 and 1", BAD_STATE, votedAmong(1, 40), settle);
        Bounds.taken("40 and none", votedAmong(0, 40), settle);
        Bounds.taken("20 and 20", votedAmong(20, 20), settle);
        Bounds.refused("21 and 20", BAD_STATE, votedAmong(20, 21), settle);
        Bounds.refused("21 and 21", BAD_STATE, votedAmong(21, 21), settle);
        Bounds.refused("40 and 40", BAD_STATE, votedAmong(40, 40), settle);
        Claimclub votes = votedAmong(2, 39).get();
        Check.thrownBy(() -> votes.settle(0));
        Check.same("the votes of a call that throws are not over", true, votes.passes(0, 2));
        Check.same("none of the bonds is swapped by it", 39, Seen.claims(votes));
        Supplier<Claimclub> pooled = Bounds.made(state -> {
            Bounds.offers(state, 1);
            Bounds.bonds(state, 10, 10, 0);
            Bounds.bonds(state, 10, 10, 1);
            Bounds.suppliers(state, 1);
            for (int claim = 0; claim < 15; claim++) {
                state.vote(claim, 0, true);
            }
        });
        Bounds.refused("21, and 20 as they are pooled", BAD_STATE, pooled, settle);
    }
}
