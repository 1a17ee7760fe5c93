import java.util.ArrayList;
import java.util.List;
import java.util.function.Consumer;
import java.util.function.Supplier;

/** The terms of the document that hold for all calls, and those of claims, sentence by sentence, at their bounds. */
final class TermsOfClaimsBounds {
    private static final Class<? extends RuntimeException> BAD_INDEX = Check.BAD_INDEX;
    private static final Class<? extends RuntimeException> BAD_ARGUMENT = Check.BAD_ARGUMENT;
    private static final Class<? extends RuntimeException> BAD_STATE = Check.BAD_STATE;

    private TermsOfClaimsBounds() {
    }

    static void tell(Sentences all) {
        tellOfAllCalls(all);
        tellOfClaims(all);
    }

    // ---- all calls

    private static void tellOfAllCalls(Sentences all) {
        all.test("What it is", "An object is used for at most 512 calls", TermsOfClaimsBounds::theLastOf512Calls);
        all.test("Terms", "values, efforts, gaps, paths and payments are asked",
            TermsOfClaimsBounds::askingChangesNothing);
        all.test("Terms", "A call that throws an exception changes nothing",
            TermsOfClaimsBounds::throwingChangesNothing);
        all.test("Terms", "the one that its throws clause names first is thrown",
            TermsOfClaimsBounds::theFirstOfSeveral);
        all.test("Terms", "All sums are whole", TermsOfClaimsBounds::sumsAreWhole);
        all.test("Terms", "all quotients are rounded down", TermsOfClaimsBounds::quotientsAreRoundedDown);
        all.test("Terms", "also below 0", TermsOfClaimsBounds::quotientsBelowZeroAreRoundedDown);
        all.test("Terms", "Years are counted", TermsOfClaimsBounds::yearsAreCounted);
        all.test("Terms", "the year is 0 at first", TermsOfClaimsBounds::theYearIsZeroAtFirst);
        all.test("Terms", "`NONE = -1`: None", () -> Check.same("NONE", -1, Claimclub.NONE));
        all.test("Terms", "`CLUB = 0, BOND = 1, BANK = 2, SUPPLIER = 3, FUND = 4`: Kinds", TermsOfClaimsBounds::kinds);
        all.test("Terms", "`OPEN = 0, PAID = 1, SWAPPED = 2`: What claims are", TermsOfClaimsBounds::whatClaimsAre);
    }

    private static void theLastOf512Calls() {
        Claimclub purse = new Claimclub();
        for (int call = 1; call <= 512; call++) {
            Check.same("the call " + call, 10000000L * call, purse.economy(0, 0, 10000000));
        }
        Claimclub full = new Claimclub();
        for (int call = 1; call <= 512; call++) {
            boolean isRefused = Check.thrownBy(() -> Bounds.claim(full, 0, 1, 10, 0, 9)) != null;
            Check.same("the claim of the call " + call, call > 40, isRefused);
        }
        Claimclub votes = new Claimclub();
        Bounds.bonds(votes, 1, 10, 0);
        Bounds.offers(votes, 1);
        for (int call = 3; call < 512; call++) {
            votes.vote(0, 0, call % 2 == 1);
        }
        Check.same("the call 512, after a yes", true, votes.passes(0, 0));
    }

    /**
     * A state in the year 2 in which each call has something to do. Its claims: 0 swapped, 1 a bond with a yes,
     * 2 judged, with arrears of 1330, 3 the state's own bond, 4 hidden, 5 the new one of 0.
     */
    private static void makeMixed(Claimclub state) {
        state.economy(150, 3, 500);
        Bounds.claim(state, Claimclub.CLUB, 1, 40000, 700, 9);
        Bounds.bond(state, 2, 5000, 0);
        Bounds.claim(state, Claimclub.BANK, 3, 2000, 1000, 1);
        state.claim(Claimclub.BOND, 0, 700, 100, 5, 2, 3, false);
        Bounds.hidden(state, Claimclub.SUPPLIER, 4, 300);
        state.pledge(0, 400);
        state.offer(30, 200, 7);
        state.offer(5, 0, 30);
        state.vote(1, 0, true);
        Bounds.things(state, 2, 150);
        state.moratorium(Claimclub.SUPPLIER, true);
        state.year(1);
        state.sue(2);
        state.year(1);
        state.economy(150, 3, 800);
        state.accept(0, 1);
        state.assure(1, true);
        state.programme(600, -5, 3);
        state.discount(650);
    }

    /**
     * A state in the last year with the most claims, offers and things, an empty purse and a programme. Its
     * claim 0 is a bond with a yes to the offer 0, its claim 1, the club's, sued.
     */
    private static void makeFull(Claimclub state) {
        Bounds.bonds(state, 1, 10, 0);
        Bounds.claim(state, Claimclub.CLUB, 1, 10, 0, 9);
        for (int tens = 0; tens < 6; tens++) {
            state.year(10);
        }
        state.sue(1);
        Bounds.suppliers(state, 38);
        Bounds.offers(state, 12);
        Bounds.things(state, 10, 5);
        state.vote(0, 0, true);
        state.programme(1, 0, 1);
    }

    private static void askingChangesNothing() {
        List<Consumer<Claimclub>> asked = new ArrayList<>();
        for (int claim = 0; claim <= 5; claim++) {
            int number = claim;
            asked.add(state -> state.value(number, 0));
            asked.add(state -> state.value(number, 1500));
            asked.add(state -> state.offered(number, 1, 800));
            asked.add(state -> state.ofClaim(number, 0));
            asked.add(state -> state.ofClaim(number, 7));
            asked.add(state -> state.paidAnew(number));
        }
        for (int number = 0; number <= 4; number++) {
            int kind = number;
            asked.add(state -> state.effort(kind));
            asked.add(state -> state.passes(0, kind - 1));
            asked.add(state -> state.ofState(kind));
        }
        asked.add(state -> state.areAlike());
        asked.add(state -> state.isBearable(1));
        asked.add(state -> state.isBearable(30));
        Supplier<Claimclub> made = Bounds.made(TermsOfClaimsBounds::makeMixed);
        String untouched = Sequel.of(made.get());
        for (int i = 0; i < asked.size(); i++) {
            Claimclub state = made.get();
            asked.get(i).accept(state);
            asked.get(i).accept(state);
            Check.same("what is asked, " + i, untouched, Sequel.of(state));
        }
    }

    private static void throwingChangesNothing() {
        Check.same("the mixed state's claim 2", 1330, mixed().ofClaim(2, 2));
        throwingChangesNothingOfClaims();
        throwingChangesNothingOfTheRest();
        throwingChangesNothingIfAllIsFull();
    }

    private static Claimclub mixed() {
        Claimclub state = new Claimclub();
        makeMixed(state);
        return state;
    }

    private static void refusedByMixed(String what, Class<? extends RuntimeException> due, Consumer<Claimclub> call) {
        Bounds.refused(what, due, TermsOfClaimsBounds::mixed, call);
    }

    private static void throwingChangesNothingOfClaims() {
        refusedByMixed("claim", BAD_ARGUMENT, state -> state.claim(1, 1, 10, 0, 1, 0, 4, false));
        refusedByMixed("pledge, no claim", BAD_INDEX, state -> state.pledge(6, 1));
        refusedByMixed("pledge, cents", BAD_ARGUMENT, state -> state.pledge(1, 0));
        refusedByMixed("pledge, not open", BAD_STATE, state -> state.pledge(0, 1));
        refusedByMixed("pledge, the purse", BAD_STATE, state -> state.pledge(1, 1000000));
        refusedByMixed("reveal, no claim", BAD_INDEX, state -> state.reveal(-1));
        refusedByMixed("reveal, not hidden", BAD_STATE, state -> state.reveal(2));
        refusedByMixed("economy", BAD_ARGUMENT, state -> state.economy(0, 0, 10000001));
        refusedByMixed("moratorium", BAD_INDEX, state -> state.moratorium(5, true));
        refusedByMixed("year", BAD_ARGUMENT, state -> state.year(11));
        refusedByMixed("discount", BAD_ARGUMENT, state -> state.discount(1501));
        refusedByMixed("offer", BAD_ARGUMENT, state -> state.offer(0, 0, 31));
        refusedByMixed("accept, no claim", BAD_INDEX, state -> state.accept(6, 0));
        refusedByMixed("accept, a bond", BAD_STATE, state -> state.accept(1, 0));
        refusedByMixed("accept, not open", BAD_STATE, state -> state.accept(0, 0));
        refusedByMixed("vote, no offer", BAD_INDEX, state -> state.vote(1, 2, false));
        refusedByMixed("vote, no bond", BAD_STATE, state -> state.vote(2, 0, true));
        refusedByMixed("vote, the state's own", BAD_STATE, state -> state.vote(3, 0, true));
        refusedByMixed("settle", BAD_INDEX, state -> state.settle(2));
    }

    private static void throwingChangesNothingOfTheRest() {
        refusedByMixed("thing", BAD_ARGUMENT, state -> state.thing(1000001));
        refusedByMixed("sue, no claim", BAD_INDEX, state -> state.sue(6));
        refusedByMixed("sue, not open", BAD_STATE, state -> state.sue(0));
        refusedByMixed("sue, no arrears", BAD_STATE, state -> state.sue(1));
        refusedByMixed("sue, sued", BAD_STATE, state -> state.sue(2));
        refusedByMixed("seize, no thing", BAD_INDEX, state -> state.seize(2, 2));
        refusedByMixed("seize, not open", BAD_STATE, state -> state.seize(0, 0));
        refusedByMixed("seize, not judged", BAD_STATE, state -> state.seize(5, 0));
        refusedByMixed("programme", BAD_ARGUMENT, state -> state.programme(1, 0, 11));
        refusedByMixed("assure", BAD_INDEX, state -> state.assure(8, true));
        refusedByMixed("value, no claim", BAD_INDEX, state -> state.value(6, 0));
        refusedByMixed("value, rate", BAD_ARGUMENT, state -> state.value(0, 1501));
        refusedByMixed("offered, no offer", BAD_INDEX, state -> state.offered(0, 2, 0));
        refusedByMixed("offered, rate", BAD_ARGUMENT, state -> state.offered(0, 0, -1));
        refusedByMixed("effort", BAD_INDEX, state -> state.effort(5));
        refusedByMixed("passes", BAD_INDEX, state -> state.passes(0, -2));
        refusedByMixed("isBearable", BAD_ARGUMENT, state -> state.isBearable(31));
        refusedByMixed("ofClaim, no claim", BAD_INDEX, state -> state.ofClaim(6, 0));
        refusedByMixed("ofClaim, what", BAD_ARGUMENT, state -> state.ofClaim(0, 8));
        refusedByMixed("paidAnew", BAD_INDEX, state -> state.paidAnew(6));
        refusedByMixed("ofState", BAD_ARGUMENT, state -> state.ofState(5));
    }

    private static void throwingChangesNothingIfAllIsFull() {
        Supplier<Claimclub> full = Bounds.made(TermsOfClaimsBounds::makeFull);
        Bounds.refused("claim, there are 40", BAD_STATE, full, state -> Bounds.claim(state, 0, 1, 10, 0, 1));
        Bounds.refused("pledge, an empty purse", BAD_STATE, full, state -> state.pledge(0, 1));
        Bounds.refused("year, above 60", BAD_STATE, full, state -> state.year(1));
        Bounds.refused("offer, there are 12", BAD_STATE, full, state -> state.offer(0, 0, 1));
        Bounds.refused("accept, there are 40", BAD_STATE, full, state -> state.accept(1, 0));
        Bounds.refused("settle, more than 40", BAD_STATE, full, state -> state.settle(0));
        Bounds.refused("thing, there are 10", BAD_STATE, full, state -> state.thing(1));
        Bounds.refused("sue, sued", BAD_STATE, full, state -> state.sue(1));
        Bounds.refused("seize, not judged", BAD_STATE, full, state -> state.seize(1, 0));
        Bounds.refused("review, there are 40", BAD_STATE, full, state -> state.review());
    }

    /** Of each call whose throws clause names several, as many at once as there can be. */
    private static void theFirstOfSeveral() {
        Supplier<Claimclub> full = Bounds.made(TermsOfClaimsBounds::makeFull);
        Bounds.refused("claim: argument, state", BAD_ARGUMENT, full, state -> Bounds.claim(state, 0, 1, 0, 0, 1));
        Bounds.refused("pledge: index, argument, state", BAD_INDEX, full, state -> state.pledge(40, 1000001));
        Bounds.refused("pledge: argument, state", BAD_ARGUMENT, full, state -> state.pledge(0, 1000001));
        Bounds.refused("year: argument, state", BAD_ARGUMENT, full, state -> state.year(11));
        Bounds.refused("offer: argument, state", BAD_ARGUMENT, full, state -> state.offer(100, 0, 1));
        Bounds.refused("accept: index of the claim, state", BAD_INDEX, full, state -> state.accept(40, 0));
        Bounds.refused("accept: index of the offer, state", BAD_INDEX, full, state -> state.accept(0, 12));
        Bounds.refused("vote: index, state", BAD_INDEX, full, state -> state.vote(1, 12, true));
        Bounds.refused("settle: index, state", BAD_INDEX, full, state -> state.settle(12));
        Bounds.refused("thing: argument, state", BAD_ARGUMENT, full, state -> state.thing(0));
        Bounds.refused("seize: index of the thing, state", BAD_INDEX, full, state -> state.seize(1, 10));
        Bounds.refused("seize: index of the claim, state", BAD_INDEX, full, state -> state.seize(40, 0));
        Bounds.refused("value: index, argument", BAD_INDEX, full, state -> state.value(40, -1));
        Bounds.refused("offered: index, argument", BAD_INDEX, full, state -> state.offered(0, 12, 1501));
        Bounds.refused("ofClaim: index, argument", BAD_INDEX, full, state -> state.ofClaim(40, 8));
    }

    private static void sumsAreWhole() {
        Claimclub state = new Claimclub();
        Bounds.claim(state, 0, 1, 19, 1000, 30);
        state.economy(0, 0, 100);
        // 1.9 a year.
        Check.same("what is cut off does not come later", 10, state.year(10));
        Check.same("nor is it paid", 90, state.ofState(1));
    }

    private static void quotientsAreRoundedDown() {
        Claimclub output = new Claimclub();
        output.economy(1, 1, 0);
        output.year(2);
        // 1000100 by a thousandth, and by a ten thousandth.
        Check.same("what the balance brings", 1000 + 1000, output.ofState(1));
        Check.same("how the output grows", 1000100 + 100, output.ofState(2));
        int[][] principalsFlows = {{999, 0}, {1000, 1}, {1999, 1}, {2000, 2}};
        for (int[] due : principalsFlows) {
            Claimclub state = new Claimclub();
            Bounds.claim(state, 0, 1, due[0], 10, 9);
            Check.same("the coupon of " + due[0], due[0] + 9 * due[1], state.value(0, 0));
        }
        Claimclub worth = new Claimclub();
        Bounds.claim(worth, 0, 1, 1, 0, 1);
        Check.same("a value", 0, worth.value(0, 1));
        Check.same("a principal by an offer", 0, worth.offered(0, worth.offer(1, 0, 1), 0));
        worth.discount(0);
        Bounds.claim(worth, 2, 1, 3, 0, 9);
        worth.accept(1, worth.offer(33, 0, 9));
        // 2.01 of 3, that is 2; 20000 by 3 is 6666.
        Check.same("an effort", 10000 - 6666, worth.effort(2));
        Claimclub debt = new Claimclub();
        debt.discount(1000);
        Bounds.claim(debt, 0, 1, 9, 0, 9);
        Check.same("how a debt of 9 grows by a tenth", true, debt.isBearable(30));
        Bounds.claim(debt, 0, 1, 1, 0, 9);
        Check.same("how a debt of 10 grows by a tenth", false, debt.isBearable(1));
    }

    private static void quotientsBelowZeroAreRoundedDown() {
        Claimclub output = new Claimclub();
        output.economy(1, 0, 0);
        output.year(1);
        output.economy(-1, -1, 0);
        output.year(1);
        // 1000100 by a thousandth and by a ten thousandth: 1000.1 and 100.01.
        Check.same("what a balance below 0 brings", -1001, output.ofState(1));
        Check.same("how the output grows below 0", 1000100 - 101, output.ofState(2));
        Claimclub sinking = new Claimclub();
        sinking.economy(-1000, -199, 0);
        long purse = 0;
        long made = 1000000;
        for (int year = 1; year <= 60; year++) {
            sinking.year(1);
            purse -= (made * 199 + 999) / 1000;
            made -= (made + 9) / 10;
            Check.same("the purse in the year " + year, purse, sinking.ofState(1));
            Check.same("the output in the year " + year, made, sinking.ofState(2));
        }
        Claimclub effort = new Claimclub();
        effort.discount(0);
        Bounds.claim(effort, 0, 1, 39, 0, 9);
        effort.accept(0, effort.offer(0, 1000, 1));
        // 42 of 39: 420000 by 39 is 10769.2.
        Check.same("an effort below 0", 10000 - 10769, effort.effort(0));
        quotientsBelowZeroOfADebt();
    }

    private static void quotientsBelowZeroOfADebt() {
        Claimclub debt = new Claimclub();
        Bounds.claim(debt, 0, 1, 10005, 0, 30);
        debt.discount(0);
        debt.economy(1, 0, 0);
        debt.year(1);
        debt.economy(1000, -1, 0);
        // 10005 by 1000100 is 10003 millionths; 1001 more by 1100110 is 10004, 1000 more would be 10003.
        Check.same("a debt by a balance below 0", false, debt.isBearable(1));
        Claimclub output = new Claimclub();
        Bounds.claim(output, 0, 1, 1000000, 0, 30);
        output.discount(0);
        output.economy(-1000, 100, 0);
        // Both sink by a tenth, to 531441; then the debt by 53144, the output by 53145.
        Check.same("a debt by a growth below 0, six years", true, output.isBearable(6));
        Check.same("a debt by a growth below 0, seven years", false, output.isBearable(7));
    }

    private static void yearsAreCounted() {
        Claimclub state = new Claimclub();
        for (int year = 1; year <= 60; year++) {
            state.year(1);
            Check.same("the year", year, state.ofState(0));
        }
    }

    private static void theYearIsZeroAtFirst() {
        Claimclub state = new Claimclub();
        Check.same("the year", 0, state.ofState(0));
        Check.same("a claim is due from it on", 1, state.ofClaim(Bounds.claim(state, 0, 1, 10, 0, 1), 3));
    }

    private static void kinds() {
        int[] kinds = {Claimclub.CLUB, Claimclub.BOND, Claimclub.BANK, Claimclub.SUPPLIER, Claimclub.FUND};
        for (int kind = 0; kind < kinds.length; kind++) {
            Check.same("a kind", kind, kinds[kind]);
        }
    }

    private static void whatClaimsAre() {
        Check.same("OPEN", 0, Claimclub.OPEN);
        Check.same("PAID", 1, Claimclub.PAID);
        Check.same("SWAPPED", 2, Claimclub.SWAPPED);
    }

    // ---- claims

    private static void tellOfClaims(Sentences all) {
        all.test("Terms", "Claims are numbered from 0, at most 40", TermsOfClaimsBounds::claimsAreNumbered);
        all.test("Terms", "of a kind, CLUB, BOND, BANK, SUPPLIER or FUND", TermsOfClaimsBounds::claimsAreOfAKind);
        all.test("Terms", "who is the state itself, if 0", TermsOfClaimsBounds::theLenderZeroIsTheState);
        all.test("Terms", "a coupon, in hundredths of a percent of the principal",
            TermsOfClaimsBounds::couponsByThePrincipal);
        all.test("Terms", "a rank, 0 to 2", TermsOfClaimsBounds::ranks);
        all.test("Terms", "if it is a BOND, a series, 0 to 3", TermsOfClaimsBounds::seriesOfBonds);
        all.test("Terms", "it may be hidden, until it is revealed", TermsOfClaimsBounds::hiddenUntilRevealed);
        all.test("Terms", "that matters for the debt and reviews alone", TermsOfClaimsBounds::hidingMattersNowhereElse);
        all.test("Terms", "It is OPEN, PAID, or SWAPPED", TermsOfClaimsBounds::openPaidOrSwapped);
        all.test("Terms", "in each year from the next one to that in which it is due",
            TermsOfClaimsBounds::flowsByYears);
        all.test("Terms", "by the principal of then", TermsOfClaimsBounds::flowsByThePrincipalOfThen);
        all.test("Terms", "in that with its principal", TermsOfClaimsBounds::theLastFlowHasThePrincipal);
        all.test("Terms", "It has arrears, 0 at first, and perhaps a pledge",
            TermsOfClaimsBounds::noArrearsNorPledgeAtFirst);
        all.test("Terms", "What is owed of it is its principal and its arrears", TermsOfClaimsBounds::owedTogether);
    }

    private static void claimsAreNumbered() {
        Claimclub state = new Claimclub();
        Check.same("from 0", 0, Bounds.bond(state, 1, 10, 0));
        state.programme(1, 0, 1);
        state.assure(1, true);
        state.offer(0, 0, 9);
        state.vote(0, 0, true);
        state.settle(0);
        Check.same("behind a settling", 2, Bounds.claim(state, 0, 1, 10, 0, 9));
        Check.same("by an accepting", 3, state.accept(2, 0));
        state.review();
        Check.same("behind a review", 5, Bounds.claim(state, 0, 1, 10, 0, 9));
        Bounds.suppliers(state, 34);
        Check.same("the 40th is there", Claimclub.OPEN, state.ofClaim(39, 0));
        Check.same("there are 40", 40, Seen.claims(state));
        Check.same("and no more", "IllegalStateException",
            Check.thrownBy(() -> Bounds.suppliers(state, 1)).getClass().getSimpleName());
    }

    private static void claimsAreOfAKind() {
        for (int kind = Claimclub.CLUB; kind <= Claimclub.FUND; kind++) {
            Claimclub state = new Claimclub();
            Bounds.claim(state, kind, 1, 10, 0, 9);
            state.programme(1, 0, 1);
            boolean isOfficial = kind == Claimclub.CLUB || kind == Claimclub.BANK;
            Check.same("a review with the kind " + kind, isOfficial ? 3 : 0, state.review());
        }
    }

    private static void theLenderZeroIsTheState() {
        for (int lender = 0; lender <= 7; lender++) {
            Claimclub state = new Claimclub();
            Bounds.claim(state, 0, lender, 10, 0, 1);
            Check.same("the debt to " + lender, lender == 0 ? 0 : 10, state.ofState(3));
            state.economy(0, 0, 10);
            Check.same("what is paid to " + lender, lender == 0 ? 0 : 10, state.year(1));
        }
    }

    private static void couponsByThePrincipal() {
        int[][] principalsCouponsFlows = {
            {9999, 1, 0}, {10000, 1, 1}, {19999, 1, 1}, {9, 1000, 0}, {10, 1000, 1}, {1000000, 1, 100},
            {1000000, 1000, 100000}, {1000000, 0, 0}, {1, 0, 0}, {10010, 999, 999}, {10011, 999, 1000}
        };
        for (int[] due : principalsCouponsFlows) {
            Claimclub state = new Claimclub();
            Bounds.claim(state, 0, 1, due[0], due[1], 9);
            state.year(1);
            Check.same(due[1] + " of " + due[0], due[2], state.ofClaim(0, 2));
        }
    }

    private static void ranks() {
        Claimclub state = new Claimclub();
        int[] ranks = {2, 1, 0, 2, 1, 0};
        for (int rank : ranks) {
            state.claim(0, 1, 10, 0, 1, rank, -1, false);
        }
        state.economy(0, 0, 55);
        state.year(1);
        long[] paid = {10, 10, 10, 5, 10, 10};
        for (int claim = 0; claim < ranks.length; claim++) {
            Check.same("what is paid to " + claim, paid[claim], state.ofClaim(claim, 4));
        }
    }

    private static void seriesOfBonds() {
        Claimclub state = new Claimclub();
        Bounds.offers(state, 1);
        for (int series = 0; series <= 3; series++) {
            state.vote(Bounds.bond(state, 1, 10, series), 0, true);
            for (int asked = 0; asked <= 3; asked++) {
                Check.same("to the series " + series + ", that of " + asked, asked <= series, state.passes(0, asked));
            }
        }
    }

    private static void hiddenUntilRevealed() {
        Claimclub state = new Claimclub();
        Bounds.hidden(state, Claimclub.BANK, 1, 10);
        state.programme(1, 0, 9);
        Check.same("it is no debt", 0, state.ofState(3));
        Check.same("nor looked at in a review", 0, state.review());
        Check.same("revealed, it is a debt, with that of the review", 11, state.reveal(0));
        Check.same("and looked at in a review", 3, state.review());
        state.year(1);
        Check.same("it is not hidden again", 11, state.ofState(3));
    }

    private static void hidingMattersNowhereElse() {
        for (int kind = Claimclub.CLUB; kind <= Claimclub.FUND; kind++) {
            Check.same("kind " + kind, answersWith(kind, false), answersWith(kind, true));
        }
    }

    /** What is told, but for the debt and reviews, of a state with such a claim. */
    private static String answersWith(int kind, boolean isHidden) {
        Claimclub state = new Claimclub();
        StringBuilder told = new StringBuilder();
        state.claim(kind, 1, 1000, 1000, 9, 1, kind == Claimclub.BOND ? 2 : -1, isHidden);
        state.economy(0, 0, 80);
        told.append(state.pledge(0, 30)).append(' ').append(state.value(0, 800)).append(' ').append(state.year(1));
        state.sue(0);
        told.append(' ').append(state.year(1)).append(' ').append(state.seize(0, state.thing(300)));
        Bounds.offers(state, 1);
        told.append(' ').append(state.offered(0, 0, 800));
        if (kind == Claimclub.BOND) {
            state.vote(0, 0, true);
            told.append(state.passes(0, 2)).append(state.passes(0, -1)).append(state.settle(0));
        } else {
            told.append(state.accept(0, 0));
        }
        told.append(' ').append(state.year(9)).append(state.effort(kind)).append(state.areAlike());
        for (int what = 0; what <= 7; what++) {
            told.append(' ').append(state.ofClaim(0, what)).append(' ').append(state.ofClaim(1, what));
        }
        return told.toString();
    }

    private static void openPaidOrSwapped() {
        Claimclub state = new Claimclub();
        Bounds.paid(state, 0);
        Bounds.suppliers(state, 1);
        Bounds.offers(state, 1);
        state.accept(1, 0);
        Check.same("paid", Claimclub.PAID, state.ofClaim(0, 0));
        Check.same("swapped", Claimclub.SWAPPED, state.ofClaim(1, 0));
        Check.same("open", Claimclub.OPEN, state.ofClaim(2, 0));
        state.economy(0, 0, 1000000);
        state.year(10);
        Check.same("paid for good", Claimclub.PAID, state.ofClaim(0, 0));
        Check.same("swapped for good, though its year came", Claimclub.SWAPPED, state.ofClaim(1, 0));
        Check.same("not open any more", Claimclub.PAID, state.ofClaim(2, 0));
    }

    private static void flowsByYears() {
        Claimclub state = new Claimclub();
        state.year(4);
        Bounds.claim(state, 0, 1, 1000, 1000, 3);
        state.economy(0, 0, 10000);
        Check.same("not in the year of now", 0, state.ofClaim(0, 2));
        Check.same("the flows that are left", 1300, state.value(0, 0));
        long[] paid = {100, 100, 1100, 0, 0};
        long[] left = {1200, 1100, 0, 0, 0};
        for (int i = 0; i < paid.length; i++) {
            Check.same("in the year " + (5 + i), paid[i], state.year(1));
            Check.same("left after the year " + (5 + i), left[i], state.value(0, 0));
        }
        Claimclub unpaid = new Claimclub();
        Bounds.claim(unpaid, 0, 1, 10, 1000, 1);
        unpaid.year(1);
        Check.same("the coupon in the year in which it is due", 11, unpaid.ofClaim(0, 2));
        unpaid.year(1);
        Check.same("no coupon after that", 11, unpaid.ofClaim(0, 2));
    }

    private static void flowsByThePrincipalOfThen() {
        Claimclub state = new Claimclub();
        Bounds.judge(state);
        state.seize(0, state.thing(205 + 900));
        Check.same("9 years less 2, by 100", 100 + 7 * 10, state.value(0, 0));
        state.economy(0, 0, 10000);
        Check.same("the next coupon", 10, state.year(1));
        Check.same("all later ones, and the principal", 60 + 100, state.year(6));
    }

    private static void theLastFlowHasThePrincipal() {
        Claimclub state = new Claimclub();
        Bounds.claim(state, 0, 1, 1000, 500, 2);
        state.year(1);
        Bounds.tells("the year before", state, 0, Claimclub.OPEN, 1000, 50);
        state.year(1);
        // 50 and 2 of it, and 1050.
        Bounds.tells("in the year in which it is due", state, 0, Claimclub.OPEN, 0, 1102);
    }

    private static void noArrearsNorPledgeAtFirst() {
        Claimclub state = new Claimclub();
        state.year(7);
        Bounds.claim(state, 0, 1, 1000, 1000, 1);
        Check.same("no arrears", 0, state.ofClaim(0, 2));
        Check.same("no pledge", 0, state.ofClaim(0, 5));
        state.programme(5, 0, 1);
        state.economy(0, 0, 1);
        state.assure(1, true);
        Check.same("a review", 0, state.review());
        Check.same("no arrears of the fund", 0, state.ofClaim(1, 2));
        Check.same("no pledge for the fund", 0, state.ofClaim(1, 5));
    }

    private static void owedTogether() {
        Claimclub state = new Claimclub();
        Bounds.claim(state, 0, 1, 1000, 1000, 2);
        Check.same("the principal alone", 1000, state.ofState(3));
        state.year(1);
        Check.same("both", 1100, state.ofState(3));
        state.year(1);
        Check.same("the arrears alone", 1205, state.ofState(3));
        Check.same("no principal", 0, state.ofClaim(0, 1));
        state.offer(0, 0, 9);
        Check.same("owed by an offer", 1205, state.offered(0, 0, 0));
    }
}
