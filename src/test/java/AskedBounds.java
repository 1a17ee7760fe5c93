import java.util.function.Consumer;
import java.util.function.Supplier;

/** Promises 19 to 27, sentence by sentence, at their bounds. */
final class AskedBounds {
    private static final Class<? extends RuntimeException> BAD_INDEX = Check.BAD_INDEX;
    private static final Class<? extends RuntimeException> BAD_ARGUMENT = Check.BAD_ARGUMENT;

    private AskedBounds() {
    }

    static void tell(Sentences all) {
        tellPromises19And20(all);
        tellPromises21To23(all);
        tellPromise24(all);
        tellPromises25To27(all);
    }

    private static Supplier<Claimclub> fortyWithOffers() {
        return Bounds.made(state -> {
            for (int number = 0; number < 40; number++) {
                Bounds.claim(state, Claimclub.CLUB, 1, 100 + number, 0, 9);
            }
            for (int cut = 0; cut < 12; cut++) {
                state.offer(cut, 0, 9);
            }
        });
    }

    // ---- promises 19 and 20: value, offered

    private static void tellPromises19And20(Sentences all) {
        all.test("Promise 19", "Returns the value of a claim", AskedBounds::valueOfThatClaim);
        all.test("Promise 19", "`claim`: the number of a claim", AskedBounds::valueClaim);
        all.test("Promise 19", "`rate`: 0 to 1500", AskedBounds::valueRate);
        all.test("Promise 19", "Throws `IndexOutOfBoundsException` if there is no such claim",
            AskedBounds::valueOfNoClaim);
        all.test("Promise 19", "Throws `IllegalArgumentException` if rate is out of range",
            AskedBounds::valueAtAWrongRate);
        all.test("Promise 20", "Returns the value that a claim would have by an offer", AskedBounds::offeredValue);
        all.test("Promise 20", "`claim`: the number of a claim", AskedBounds::offeredClaim);
        all.test("Promise 20", "`offer`: the number of an offer", AskedBounds::offeredOffer);
        all.test("Promise 20", "`rate`: 0 to 1500", AskedBounds::offeredRate);
        all.test("Promise 20", "0, if the claim is not OPEN", AskedBounds::offeredForOneNotOpen);
        all.test("Promise 20", "Throws `IndexOutOfBoundsException` if there is no such claim or offer",
            AskedBounds::offeredForNoClaimOrOffer);
        all.test("Promise 20", "Throws `IllegalArgumentException` if rate is out of range",
            AskedBounds::offeredAtAWrongRate);
    }

    private static void valueOfThatClaim() {
        Claimclub state = new Claimclub();
        Bounds.claim(state, 0, 1, 1000, 1000, 1);
        Bounds.claim(state, 0, 1, 1000, 0, 1);
        Check.same("the first, with its coupon", 1100, state.value(0, 0));
        Check.same("the second, without one", 1000, state.value(1, 0));
        state.discount(1500);
        Check.same("the rate is that of the call", 1100, state.value(0, 0));
    }

    private static void valueClaim() {
        Bounds.noNumber(Claimclub::new, (state, claim) -> state.value(claim, 0));
        Bounds.numbers(fortyWithOffers(), 40,
            (state, claim) -> Check.same("the claim " + claim, 100 + claim, state.value(claim, 0)));
    }

    private static void valueRate() {
        Supplier<Claimclub> made = Bounds.made(state -> Bounds.claim(state, 0, 1, 1000000, 0, 2));
        Bounds.range(BAD_ARGUMENT, made, 0, 1500, (state, rate) -> state.value(0, rate));
        Check.same("the least", 1000000, made.get().value(0, 0));
        // 999900, then 999800.0 and a bit.
        Check.same("1", 999800, made.get().value(0, 1));
        // 869565, then 756143.4.
        Check.same("the most", 756143, made.get().value(0, 1500));
    }

    private static void valueOfNoClaim() {
        Supplier<Claimclub> one = Bounds.made(state -> Bounds.claim(state, 0, 1, 10, 0, 9));
        Bounds.refused("alone", BAD_INDEX, one, state -> state.value(1, 0));
        Bounds.refused("ahead of the first one", BAD_INDEX, one, state -> state.value(-1, 0));
        Bounds.refused("and rate too small", BAD_INDEX, one, state -> state.value(1, -1));
        Bounds.refused("and rate too large", BAD_INDEX, Claimclub::new, state -> state.value(0, 1501));
    }

    private static void valueAtAWrongRate() {
        Supplier<Claimclub> one = Bounds.made(state -> Bounds.claim(state, 0, 1, 10, 0, 9));
        Bounds.refused("too small", BAD_ARGUMENT, one, state -> state.value(0, -1));
        Bounds.refused("too large", BAD_ARGUMENT, one, state -> state.value(0, 1501));
        Bounds.refused("a divisor of 0", BAD_ARGUMENT, one, state -> state.value(0, -10000));
        Supplier<Claimclub> paid = Bounds.made(state -> Bounds.paid(state, Claimclub.CLUB));
        Bounds.refused("of a claim that is not open", BAD_ARGUMENT, paid, state -> state.value(0, 1501));
    }

    private static void offeredValue() {
        Claimclub state = new Claimclub();
        Bounds.claim(state, 0, 1, 1000, 1000, 9);
        state.offer(20, 500, 2);
        // 800 and 40 a year: 840 and 40.
        Check.same("at no rate", 880, state.offered(0, 0, 0));
        // 777, then 756.4.
        Check.same("at 800", 756, state.offered(0, 0, 800));
        Bounds.tells("the claim is as it was", state, 0, Claimclub.OPEN, 1000, 0, 9, 0, 0, 0, Claimclub.NONE);
        state.year(1);
        // 1100 are owed, 880 and 44 a year: 924 and 44; the old arrears are no more.
        Check.same("with arrears", 968, state.offered(0, 0, 0));
        state.accept(0, 0);
        Check.same("as it has then", 968, state.value(1, 0));
    }

    private static void offeredClaim() {
        Bounds.noNumber(Bounds.made(state -> Bounds.offers(state, 1)), (state, claim) -> state.offered(claim, 0, 0));
        Bounds.numbers(fortyWithOffers(), 40,
            (state, claim) -> Check.same("the claim " + claim, 100 + claim, state.offered(claim, 0, 0)));
    }

    private static void offeredOffer() {
        Bounds.noNumber(Bounds.made(state -> Bounds.suppliers(state, 1)), (state, offer) -> state.offered(0, offer, 0));
        Bounds.numbers(fortyWithOffers(), 12,
            (state, offer) -> Check.same("the offer " + offer, 100 - offer, state.offered(0, offer, 0)));
    }

    private static void offeredRate() {
        Supplier<Claimclub> made = Bounds.made(state -> {
            Bounds.claim(state, 0, 1, 1000000, 0, 9);
            state.offer(0, 0, 2);
        });
        Bounds.range(BAD_ARGUMENT, made, 0, 1500, (state, rate) -> state.offered(0, 0, rate));
        Check.same("the least", 1000000, made.get().offered(0, 0, 0));
        Check.same("the most", 756143, made.get().offered(0, 0, 1500));
    }

    private static void offeredForOneNotOpen() {
        Claimclub state = new Claimclub();
        Bounds.paid(state, Claimclub.CLUB);
        Bounds.claim(state, 0, 1, 1000, 1000, 9);
        Bounds.offers(state, 1);
        state.year(1);
        Check.same("an open one", 1100, state.offered(1, 0, 0));
        state.accept(1, 0);
        Check.same("a paid one", 0, state.offered(0, 0, 0));
        Check.same("a swapped one, with arrears told", 0, state.offered(1, 0, 0));
        Check.same("its new one", 1100, state.offered(2, 0, 0));
    }

    private static void offeredForNoClaimOrOffer() {
        Supplier<Claimclub> made = Bounds.made(state -> {
            Bounds.suppliers(state, 2);
            Bounds.offers(state, 2);
        });
        for (int rate : new int[] {0, -1, 1501}) {
            Bounds.refused("no claim, rate " + rate, BAD_INDEX, made, state -> state.offered(2, 1, rate));
            Bounds.refused("no offer, rate " + rate, BAD_INDEX, made, state -> state.offered(1, 2, rate));
            Bounds.refused("neither, rate " + rate, BAD_INDEX, made, state -> state.offered(-1, -1, rate));
            Bounds.refused("no offer, for one not open, rate " + rate, BAD_INDEX,
                Bounds.made(state -> Bounds.paid(state, Claimclub.CLUB)), state -> state.offered(0, 0, rate));
        }
    }

    private static void offeredAtAWrongRate() {
        Supplier<Claimclub> made = Bounds.made(state -> {
            Bounds.paid(state, Claimclub.CLUB);
            Bounds.suppliers(state, 1);
            Bounds.offers(state, 1);
        });
        for (int rate : new int[] {-10000, -1, 1501}) {
            Bounds.refused("an open one, " + rate, BAD_ARGUMENT, made, state -> state.offered(1, 0, rate));
            Bounds.refused("one not open, " + rate, BAD_ARGUMENT, made, state -> state.offered(0, 0, rate));
        }
    }

    // ---- promises 21 to 23: effort, areAlike, passes

    private static void tellPromises21To23(Sentences all) {
        all.test("Promise 21", "Returns the effort of a kind", AskedBounds::effortOfThatKind);
        all.test("Promise 21", "@throws IndexOutOfBoundsException if there is no such kind", AskedBounds::effortKind);
        all.test("Promise 22", "Tells whether all are treated alike", AskedBounds::alikeOrNot);
        all.test("Promise 23", "by the votes of an offer, as they are", AskedBounds::passesAsVotesAre);
        all.test("Promise 23", "whether all series are pooled, for NONE", AskedBounds::passesForNone);
        all.test("Promise 23", "@throws IndexOutOfBoundsException if there is no such offer", AskedBounds::passesOffer);
        all.test("Promise 23", "or series, but for NONE", AskedBounds::passesSeries);
    }

    private static void effortOfThatKind() {
        for (int kind = Claimclub.CLUB; kind <= Claimclub.FUND; kind++) {
            Claimclub state = new Claimclub();
            Bounds.claim(state, kind, 1, 1000, 0, 9);
            state.offer(30, 0, 9);
            state.discount(0);
            if (kind == Claimclub.BOND) {
                state.vote(0, 0, true);
                state.settle(0);
            } else {
                state.accept(0, 0);
            }
            for (int asked = Claimclub.CLUB; asked <= Claimclub.FUND; asked++) {
                Check.same("kind " + kind + " asked as " + asked, kind == asked ? 3000 : 0, state.effort(asked));
            }
        }
    }

    private static void effortKind() {
        Bounds.range(BAD_INDEX, Claimclub::new, Claimclub.CLUB, Claimclub.FUND, (state, kind) -> state.effort(kind));
    }

    private static void alikeOrNot() {
        Claimclub state = new Claimclub();
        Check.same("without claims", true, state.areAlike());
        Bounds.claim(state, Claimclub.CLUB, 1, 1000, 0, 9);
        Bounds.claim(state, Claimclub.BANK, 1, 1000, 0, 9);
        state.accept(0, state.offer(30, 0, 9));
        Check.same("the club's alone", true, state.areAlike());
        state.accept(1, state.offer(10, 0, 9));
        Check.same("the bank's is less", false, state.areAlike());
    }

    private static void passesAsVotesAre() {
        Claimclub state = new Claimclub();
        Bounds.bonds(state, 2, 10, 0);
        Bounds.offers(state, 2);
        state.vote(0, 0, true);
        Check.same("a half", false, state.passes(0, 0));
        state.vote(1, 0, true);
        Check.same("both", true, state.passes(0, 0));
        Check.same("another offer", false, state.passes(1, 0));
        Check.same("another series", false, state.passes(0, 1));
        state.vote(0, 0, false);
        Check.same("as they are then", false, state.passes(0, 0));
        state.vote(0, 0, true);
        state.settle(0);
        Check.same("they are over", false, state.passes(0, 0));
    }

    private static void passesForNone() {
        Claimclub state = new Claimclub();
        Bounds.bond(state, 1, 66, 0);
        Bounds.bond(state, 1, 34, 0);
        Bounds.offers(state, 1);
        state.vote(0, 0, true);
        Check.same("66 of 100: the series does not pass", false, state.passes(0, 0));
        Check.same("66 of 100: but they are pooled", true, state.passes(0, Claimclub.NONE));
        Bounds.bond(state, 1, 1, 0);
        Check.same("66 of 101: nor are they pooled", false, state.passes(0, Claimclub.NONE));
    }

    private static void passesOffer() {
        Bounds.noNumber(Claimclub::new, (state, offer) -> state.passes(offer, 0));
        Bounds.noNumber(Claimclub::new, (state, offer) -> state.passes(offer, Claimclub.NONE));
        Bounds.noNumber(Claimclub::new, (state, offer) -> state.passes(offer, 4));
        Supplier<Claimclub> twelve = Bounds.made(state -> Bounds.offers(state, 12));
        Bounds.numbers(twelve, 12, (state, offer) -> state.passes(offer, 0));
        Bounds.numbers(twelve, 12, (state, offer) -> state.passes(offer, Claimclub.NONE));
    }

    private static void passesSeries() {
        Supplier<Claimclub> made = Bounds.made(state -> {
            for (int series = 0; series <= 3; series++) {
                Bounds.bond(state, 1, 10, series);
            }
            Bounds.offers(state, 1);
            state.vote(0, 0, true);
            state.vote(3, 0, true);
        });
        Bounds.range(BAD_INDEX, made, Claimclub.NONE, 3, (state, series) -> state.passes(0, series));
        Bounds.refused("neither offer nor series", BAD_INDEX, made, state -> state.passes(1, 4));
        Check.same("the first series", true, made.get().passes(0, 0));
        Check.same("the second series", false, made.get().passes(0, 1));
        Check.same("the last series", true, made.get().passes(0, 3));
    }

    // ---- promise 24: isBearable

    private static void tellPromise24(Sentences all) {
        all.test("Promise 24", "Tells whether the debt is bearable", AskedBounds::bearableOrNot);
        all.test("Promise 24", "`years`: 1 to 30", AskedBounds::bearableYears);
        all.test("Promise 24", "Throws `IllegalArgumentException` if years is out of range",
            AskedBounds::bearableForWrongYears);
    }

    private static void bearableOrNot() {
        Claimclub state = new Claimclub();
        Check.same("no debt", true, state.isBearable(1));
        Check.same("no debt, for 30 years", true, state.isBearable(30));
        Bounds.claim(state, 0, 1, 1000000, 0, 30);
        Check.same("it grows, the output does not", false, state.isBearable(1));
        state.discount(0);
        Check.same("it does not grow", true, state.isBearable(30));
    }

    private static void bearableYears() {
        Supplier<Claimclub> made = Bounds.made(state -> {
            Bounds.claim(state, 0, 1, 1000000, 0, 30);
            state.discount(10);
            state.economy(0, 1, 0);
        });
        Bounds.range(BAD_ARGUMENT, made, 1, 30, (state, years) -> state.isBearable(years));
        for (int years = 1; years <= 30; years++) {
            Check.same("1000 more and 1000 less, for " + years, true, made.get().isBearable(years));
        }
        Claimclub sinking = new Claimclub();
        Bounds.claim(sinking, 0, 1, 1, 0, 30);
        sinking.discount(0);
        sinking.economy(-1000, 0, 0);
        // 1 by 531441 is 1 in millionths, 1 by 478296 is 2.
        Check.same("for 6 years", true, sinking.isBearable(6));
        Check.same("for 7 years", false, sinking.isBearable(7));
    }

    private static void bearableForWrongYears() {
        Bounds.refused("too few", BAD_ARGUMENT, Claimclub::new, state -> state.isBearable(0));
        Bounds.refused("below 0", BAD_ARGUMENT, Claimclub::new, state -> state.isBearable(-1));
        Bounds.refused("too many", BAD_ARGUMENT, Claimclub::new, state -> state.isBearable(31));
    }

    // ---- promises 25 to 27: ofClaim, paidAnew, ofState

    private static void tellPromises25To27(Sentences all) {
        all.test("Promise 25", "Tells of a claim", AskedBounds::ofClaimOfThatClaim);
        all.test("Promise 25", "`claim`: the number of a claim", AskedBounds::ofClaimClaim);
        all.test("Promise 25", "`what`: 0 OPEN to SWAPPED", AskedBounds::ofClaimWhat);
        all.test("Promise 25", "4 what was paid to it so far, by years and by things that it seized",
            AskedBounds::ofClaimPaidSoFar);
        all.test("Promise 25", "6 0 without a suit, 1 if it sued, 2 if it is judged", AskedBounds::ofClaimSuit);
        all.test("Promise 25", "7 the claim from which it was swapped, NONE without", AskedBounds::ofClaimOrigin);
        all.test("Promise 25", "Returns as told", AskedBounds::ofClaimReturnsAsTold);
        all.test("Promise 25", "Throws `IndexOutOfBoundsException` if there is no such claim", AskedBounds::ofNoClaim);
        all.test("Promise 25", "Throws `IllegalArgumentException` if what is out of range",
            AskedBounds::ofClaimNothing);
        all.test("Promise 26", "added anew from each payment by itself", AskedBounds::paidAnewAddsEachPayment);
        all.test("Promise 26", "@throws IndexOutOfBoundsException if there is no such claim",
            AskedBounds::paidAnewClaim);
        all.test("Promise 27", "Tells of the state", AskedBounds::ofStateOfThatState);
        all.test("Promise 27", "`what`: 0 the year, 1 the purse, 2 the output, 3 the debt, 4 how many reviews are left",
            AskedBounds::ofStateWhat);
        all.test("Promise 27", "Returns as told", AskedBounds::ofStateReturnsAsTold);
        all.test("Promise 27", "Throws `IllegalArgumentException` if what is out of range",
            AskedBounds::ofStateNothing);
    }

    private static void ofClaimOfThatClaim() {
        Claimclub state = new Claimclub();
        Bounds.claim(state, 0, 1, 100, 0, 3);
        Bounds.claim(state, 0, 1, 200, 0, 4);
        Bounds.tells("the first", state, 0, Claimclub.OPEN, 100, 0, 3, 0, 0, 0, Claimclub.NONE);
        Bounds.tells("the second", state, 1, Claimclub.OPEN, 200, 0, 4, 0, 0, 0, Claimclub.NONE);
    }

    private static void ofClaimClaim() {
        Bounds.noNumber(Claimclub::new, (state, claim) -> state.ofClaim(claim, 0));
        Bounds.numbers(fortyWithOffers(), 40,
            (state, claim) -> Check.same("the claim " + claim, 100 + claim, state.ofClaim(claim, 1)));
    }

    private static void ofClaimWhat() {
        Bounds.range(BAD_ARGUMENT, Bounds.made(state -> Bounds.suppliers(state, 1)), 0, 7,
            (state, what) -> state.ofClaim(0, what));
        Claimclub state = new Claimclub();
        Bounds.judge(state);
        state.seize(0, state.thing(305));
        state.economy(0, 0, 50);
        state.pledge(0, 50);
        state.year(1);
        Bounds.tells("all of it", state, 0, Claimclub.OPEN, 900, 40, 9, 355, 0, 2, Claimclub.NONE);
    }

    private static void ofClaimPaidSoFar() {
        Claimclub state = new Claimclub();
        Bounds.judge(state);
        Check.same("nothing", 0, state.ofClaim(0, 4));
        state.seize(0, state.thing(1));
        Check.same("by a thing", 1, state.ofClaim(0, 4));
        state.economy(0, 0, 70);
        Check.same("not by money in the purse", 1, state.ofClaim(0, 4));
        state.pledge(0, 20);
        Check.same("not by a pledge", 1, state.ofClaim(0, 4));
        state.year(1);
        Check.same("by a year, from both", 71, state.ofClaim(0, 4));
        state.economy(0, 0, 1000000);
        state.year(9);
        // 204 and 10 of it and 100 less 70: 244, 12 of it and 100: 356; then 5 times 100 and 1100.
        Check.same("by all years", 71 + 356 + 500 + 1000, state.ofClaim(0, 4));
        Check.same("it is told when it is paid", Claimclub.PAID, state.ofClaim(0, 0));
    }

    private static void ofClaimSuit() {
        Claimclub state = new Claimclub();
        Bounds.claim(state, 0, 1, 1000, 1000, 9);
        Bounds.claim(state, 0, 1, 1000, 1000, 9);
        state.year(1);
        Check.same("without", 0, state.ofClaim(0, 6));
        state.sue(0);
        Check.same("it sued", 1, state.ofClaim(0, 6));
        state.year(1);
        Check.same("it is judged", 2, state.ofClaim(0, 6));
        Check.same("the other one is without", 0, state.ofClaim(1, 6));
        state.year(10);
        Check.same("judged for long", 2, state.ofClaim(0, 6));
    }

    private static void ofClaimOrigin() {
        Claimclub state = new Claimclub();
        Bounds.suppliers(state, 2);
        Bounds.offers(state, 1);
        state.accept(0, 0);
        state.accept(1, 0);
        state.accept(2, 0);
        long[] origins = {Claimclub.NONE, Claimclub.NONE, 0, 1, 2};
        for (int claim = 0; claim < origins.length; claim++) {
            Check.same("the origin of " + claim, origins[claim], state.ofClaim(claim, 7));
        }
    }

    private static void ofClaimReturnsAsTold() {
        Claimclub state = new Claimclub();
        Bounds.claim(state, 0, 1, 1000000, 1000, 30);
        Bounds.allYears(state);
        // After 30 years arrears alone, for 30 years more: they go far above what an offer could have.
        Check.same("all is in the arrears", 0, state.ofClaim(0, 1));
        Check.same("the debt is that", state.ofClaim(0, 2), state.ofState(3));
        Check.same("due long ago", 30, state.ofClaim(0, 3));
        Check.same("open yet", Claimclub.OPEN, state.ofClaim(0, 0));
        Check.same("the arrears", arrearsAfterSixtyYears(), state.ofClaim(0, 2));
    }

    private static long arrearsAfterSixtyYears() {
        long arrears = 0;
        for (int year = 1; year <= 60; year++) {
            arrears += arrears * 500 / 10000;
            arrears += year <= 30 ? 100000 : 0;
            arrears += year == 30 ? 1000000 : 0;
        }
        return arrears;
    }

    private static void ofNoClaim() {
        Supplier<Claimclub> one = Bounds.made(state -> Bounds.suppliers(state, 1));
        Bounds.refused("without claims", BAD_INDEX, Claimclub::new, state -> state.ofClaim(0, 0));
        Bounds.refused("behind the last one", BAD_INDEX, one, state -> state.ofClaim(1, 0));
        Bounds.refused("ahead of the first one", BAD_INDEX, one, state -> state.ofClaim(-1, 7));
        Bounds.refused("and what too small", BAD_INDEX, one, state -> state.ofClaim(1, -1));
        Bounds.refused("and what too large", BAD_INDEX, one, state -> state.ofClaim(-1, 8));
    }

    private static void ofClaimNothing() {
        Supplier<Claimclub> one = Bounds.made(state -> Bounds.suppliers(state, 1));
        Bounds.refused("too small", BAD_ARGUMENT, one, state -> state.ofClaim(0, -1));
        Bounds.refused("too large", BAD_ARGUMENT, one, state -> state.ofClaim(0, 8));
    }

    /** The most payments that one claim may get: one in each of 60 years, and one by each of 10 things. */
    private static void paidAnewAddsEachPayment() {
        Claimclub state = new Claimclub();
        Bounds.claim(state, 0, 1, 1000000, 1000, 30);
        Check.same("none", 0, state.paidAnew(0));
        long paid = 0;
        for (int year = 1; year <= 60; year++) {
            state.economy(0, 0, year);
            paid += year;
            Check.same("one in the year " + year, year, state.year(1));
            Check.same("all to the year " + year, paid, state.paidAnew(0));
            if (year == 1) {
                state.sue(0);
            }
        }
        for (int thing = 0; thing < 10; thing++) {
            paid += 1000 + thing;
            state.seize(0, state.thing(1000 + thing));
            Check.same("with the thing " + thing, paid, state.paidAnew(0));
        }
        Check.same("as told so far", state.ofClaim(0, 4), state.paidAnew(0));
    }

    private static void paidAnewClaim() {
        Bounds.noNumber(Claimclub::new, (state, claim) -> state.paidAnew(claim));
        Consumer<Claimclub> calls = state -> {
            Bounds.suppliers(state, 40);
            state.economy(0, 0, 9);
            state.pledge(39, 9);
            state.year(10);
            state.year(10);
            state.year(10);
        };
        Bounds.numbers(Bounds.made(calls), 40,
            (state, claim) -> Check.same("the claim " + claim, claim == 39 ? 9 : 0, state.paidAnew(claim)));
    }

    private static void ofStateOfThatState() {
        Claimclub state = new Claimclub();
        Claimclub other = new Claimclub();
        other.economy(100, 1, 5);
        other.year(1);
        Bounds.suppliers(other, 1);
        other.programme(1, 0, 3);
        long[] due = {0, 0, 1000000, 0, 0};
        long[] dueOfTheOther = {1, 1005, 1010000, 10, 3};
        for (int what = 0; what <= 4; what++) {
            Check.same("a new one, " + what, due[what], state.ofState(what));
            Check.same("another one, " + what, dueOfTheOther[what], other.ofState(what));
        }
    }

    private static void ofStateWhat() {
        Bounds.range(BAD_ARGUMENT, Claimclub::new, 0, 4, (state, what) -> state.ofState(what));
        Claimclub most = new Claimclub();
        most.programme(1, 0, 10);
        most.economy(1000, 200, 10000000);
        Bounds.allYears(most);
        Check.same("the last year", 60, most.ofState(0));
        Check.same("the most reviews", 10, most.ofState(4));
        long purse = 10000000;
        long output = 1000000;
        for (int year = 0; year < 60; year++) {
            purse += output * 200 / 1000;
            output += output * 1000 / 10000;
        }
        Check.same("the most that a purse gets by years", purse, most.ofState(1));
        Check.same("the largest output", output, most.ofState(2));
    }

    private static void ofStateReturnsAsTold() {
        Claimclub lowest = new Claimclub();
        lowest.economy(1000, -200, 0);
        Bounds.allYears(lowest);
        long purse = 0;
        long output = 1000000;
        for (int year = 0; year < 60; year++) {
            purse -= (output * 200 + 999) / 1000;
            output += output * 1000 / 10000;
        }
        Check.same("the lowest purse", purse, lowest.ofState(1));
        Claimclub debt = new Claimclub();
        for (int claim = 0; claim < 40; claim++) {
            Bounds.claim(debt, 0, 7, 1000000, 0, 30);
        }
        Check.same("the most that is owed at first", 40000000, debt.ofState(3));
    }

    private static void ofStateNothing() {
        Bounds.refused("too small", BAD_ARGUMENT, Claimclub::new, state -> state.ofState(-1));
        Bounds.refused("too large", BAD_ARGUMENT, Claimclub::new, state -> state.ofState(5));
    }
}
