/** Promises 13 to 18: thing, sue, seize, programme, assure, review. */
final class SuitsAndProgrammeTest {
    private static final int[] NO_NUMBERS = {Integer.MIN_VALUE, -1, 1, 10, 40, Integer.MAX_VALUE};

    public static void main(String[] args) {
        thingsAreNumbered();
        thingRefuses();
        suitsAreJudgedAsTheNextYearComes();
        suitsOfSwappedClaimsAreNotJudged();
        sueRefuses();
        seizePaysArrearsThenPrincipal();
        seizeEndsAClaim();
        seizeLeavesOthersAlone();
        seizeRefuses();
        programmeIsAgreedOn();
        programmeRefuses();
        assureTellsOfChange();
        assureRefuses();
        reviewPays();
        reviewFailsByTheBalance();
        reviewFailsByTheFund();
        reviewFailsByAssurance();
        reviewCountsOfficialClaimsOnly();
        reviewRefuses();
        Check.end("SuitsAndProgrammeTest");
    }

    private static int plain(Claimclub state, int kind, int lender, int principal, int coupon, int years) {
        return state.claim(kind, lender, principal, coupon, years, 0, kind == Claimclub.BOND ? 0 : Check.NONE, false);
    }

    /** A state whose claim 0, of 1000 with 100 a year, is judged, with arrears of 205. */
    private static Claimclub withJudged() {
        Claimclub state = new Claimclub();
        plain(state, 3, 5, 1000, 1000, 9);
        state.year(1);
        state.sue(0);
        state.year(1);
        return state;
    }

    // ---- promise 13

    private static void thingsAreNumbered() {
        Claimclub state = new Claimclub();
        Check.same("the least", 0, state.thing(1));
        Check.same("the most", 1, state.thing(1000000));
        for (int number = 2; number < 10; number++) {
            Check.same("number", number, state.thing(number));
        }
        Check.refused("an 11th", Check.BAD_STATE, state, () -> state.thing(1));
        Check.refused("arguments come first", Check.BAD_ARGUMENT, state, () -> state.thing(0));
        Check.same("no money comes", 0, state.ofState(1));
    }

    private static void thingRefuses() {
        Claimclub state = withJudged();
        Check.refusedAt("worth", Check.BAD_ARGUMENT, state, wrong -> state.thing(wrong),
            Integer.MIN_VALUE, -1, 0, 1000001, Integer.MAX_VALUE);
        Check.same("the next number is as it was", 0, state.thing(7));
        Check.same("its worth", 7, state.seize(0, 0));
    }

    // ---- promise 14

    private static void suitsAreJudgedAsTheNextYearComes() {
        Claimclub state = new Claimclub();
        int claim = plain(state, 1, 1, 1000, 1000, 2);
        plain(state, 0, 1, 1000, 1000, 2);
        state.year(1);
        Check.same("no suit", 0, state.ofClaim(claim, 6));
        state.sue(claim);
        Check.same("it sued", 1, state.ofClaim(claim, 6));
        Check.same("the other did not", 0, state.ofClaim(1, 6));
        state.economy(0, 0, 10000);
        Check.same("all is paid", 2 * 1205, state.year(1));
        Check.same("judged ahead of that", 2, state.ofClaim(claim, 6));
        Check.same("the other is not", 0, state.ofClaim(1, 6));
        Claimclub hidden = new Claimclub();
        hidden.claim(2, 1, 1000, 1000, 9, 0, -1, true);
        hidden.year(1);
        hidden.sue(0);
        hidden.year(1);
        Check.same("hidden ones may sue", 2, hidden.ofClaim(0, 6));
        hidden.year(1);
        Check.same("judged once for all", 2, hidden.ofClaim(0, 6));
    }

    private static void suitsOfSwappedClaimsAreNotJudged() {
        Claimclub state = new Claimclub();
        plain(state, 0, 1, 1000, 1000, 9);
        state.year(1);
        state.sue(0);
        state.accept(0, state.offer(0, 1000, 9));
        Check.same("the new one has no suit", 0, state.ofClaim(1, 6));
        state.year(1);
        Check.same("the old one is not judged", 1, state.ofClaim(0, 6));
        Check.same("the new one is not either", 0, state.ofClaim(1, 6));
        state.sue(1);
        state.year(1);
        Check.same("the new one may sue for itself", 2, state.ofClaim(1, 6));
    }

    private static void sueRefuses() {
        Claimclub state = new Claimclub();
        Check.refused("without claims", Check.BAD_INDEX, state, () -> state.sue(0));
        plain(state, 0, 1, 1000, 1000, 9);
        Check.refusedAt("claim", Check.BAD_INDEX, state, wrong -> state.sue(wrong), NO_NUMBERS);
        Check.refused("no arrears", Check.BAD_STATE, state, () -> state.sue(0));
        int own = plain(state, 0, 0, 1000, 1000, 9);
        state.year(1);
        Check.refused("the state's own has no arrears", Check.BAD_STATE, state, () -> state.sue(own));
        state.sue(0);
        Check.refused("it sued", Check.BAD_STATE, state, () -> state.sue(0));
        state.year(1);
        Check.refused("it is judged", Check.BAD_STATE, state, () -> state.sue(0));
        int other = plain(state, 0, 1, 1000, 1000, 9);
        state.year(1);
        state.accept(other, state.offer(0, 0, 1));
        Check.refused("swapped, with arrears told", Check.BAD_STATE, state, () -> state.sue(other));
        int ending = plain(state, 0, 1, 1000, 0, 1);
        state.economy(0, 0, 100000);
        state.year(1);
        Check.refused("paid", Check.BAD_STATE, state, () -> state.sue(ending));
    }

    // ---- promise 15

    private static void seizePaysArrearsThenPrincipal() {
        Claimclub state = withJudged();
        state.thing(200);
        state.thing(5);
        state.thing(300);
        Check.same("for the arrears", 200, state.seize(0, 0));
        Check.same("some are left", 5, state.ofClaim(0, 2));
        Check.same("the principal is as it was", 1000, state.ofClaim(0, 1));
        Check.same("the rest of the arrears", 5, state.seize(0, 1));
        Check.same("open", Claimclub.OPEN, state.ofClaim(0, 0));
        Check.same("without arrears, for the principal", 300, state.seize(0, 2));
        Check.same("the principal is less", 700, state.ofClaim(0, 1));
        Check.same("the debt is less", 700, state.ofState(3));
        Check.same("nothing came to the purse", 0, state.ofState(1));
        Check.same("paid so far", 505, state.ofClaim(0, 4));
        Check.same("paid so far, anew", 505, state.paidAnew(0));
        Check.same("judged yet", 2, state.ofClaim(0, 6));
        state.thing(100);
        state.year(1);
        Check.same("for both at once", 100, state.seize(0, 3));
        Check.same("the arrears", 0, state.ofClaim(0, 2));
        Check.same("the principal", 670, state.ofClaim(0, 1));
    }

    private static void seizeEndsAClaim() {
        Claimclub state = withJudged();
        state.economy(0, 0, 500);
        state.pledge(0, 400);
        state.thing(1204);
        state.thing(1000000);
        Check.same("all but 1", 1204, state.seize(0, 0));
        Check.same("open yet", Claimclub.OPEN, state.ofClaim(0, 0));
        Check.same("what lies aside is not used", 400, state.ofClaim(0, 5));
        Check.same("the last", 1, state.seize(0, 1));
        Check.same("paid", Claimclub.PAID, state.ofClaim(0, 0));
        Check.same("nothing is owed", 0, state.ofClaim(0, 1) + state.ofClaim(0, 2));
        Check.same("nothing lies aside", 0, state.ofClaim(0, 5));
        Check.same("the purse gets what is left, and the pledge", 100 + 999999 + 400, state.ofState(1));
        Check.same("in all", 1205, state.paidAnew(0));
        Check.same("its year stays told", 9, state.ofClaim(0, 3));
        Check.same("no flows come any more", 0, state.year(10));
        Claimclub exact = withJudged();
        exact.thing(1205);
        Check.same("just what is owed", 1205, exact.seize(0, 0));
        Check.same("paid by that", Claimclub.PAID, exact.ofClaim(0, 0));
        Check.same("nothing is left", 0, exact.ofState(1));
    }

    private static void seizeLeavesOthersAlone() {
        Claimclub state = new Claimclub();
        plain(state, 3, 5, 1000, 1000, 9);
        plain(state, 3, 5, 1000, 1000, 9);
        state.year(1);
        state.sue(0);
        state.sue(1);
        state.year(1);
        state.thing(60);
        state.thing(70);
        state.moratorium(3, true);
        Check.same("in a moratorium too", 70, state.seize(1, 1));
        Check.same("the other's arrears", 205, state.ofClaim(0, 2));
        Check.same("its own", 135, state.ofClaim(1, 2));
        Check.same("another thing", 60, state.seize(0, 0));
        Check.same("no output is lost", 1000000, state.ofState(2));
    }

    private static void seizeRefuses() {
        Claimclub state = withJudged();
        Check.refused("without things", Check.BAD_INDEX, state, () -> state.seize(0, 0));
        state.thing(10);
        Check.refusedAt("claim", Check.BAD_INDEX, state, wrong -> state.seize(wrong, 0), NO_NUMBERS);
        Check.refusedAt("thing", Check.BAD_INDEX, state, wrong -> state.seize(0, wrong), NO_NUMBERS);
        state.seize(0, 0);
        Check.refused("twice", Check.BAD_STATE, state, () -> state.seize(0, 0));
        int thing = state.thing(10);
        int other = plain(state, 0, 1, 1000, 1000, 9);
        Check.refused("without a suit", Check.BAD_STATE, state, () -> state.seize(other, thing));
        Check.refused("the index comes first", Check.BAD_INDEX, state, () -> state.seize(other, 2));
        state.year(1);
        state.sue(other);
        Check.refused("not judged", Check.BAD_STATE, state, () -> state.seize(other, thing));
        state.accept(0, state.offer(0, 1000, 9));
        Check.refused("judged, but swapped", Check.BAD_STATE, state, () -> state.seize(0, thing));
        Check.refused("the new one is not judged", Check.BAD_STATE, state, () -> state.seize(2, thing));
        state.year(1);
        state.economy(0, 0, 100000);
        state.year(10);
        Check.same("paid, and judged", 2 + 10 * Claimclub.PAID, state.ofClaim(other, 6) + 10 * state.ofClaim(other, 0));
        Check.refused("judged, but paid", Check.BAD_STATE, state, () -> state.seize(other, thing));
    }

    // ---- promise 16

    private static void programmeIsAgreedOn() {
        Claimclub state = new Claimclub();
        state.programme(1, -200, 10);
        Check.same("reviews", 10, state.ofState(4));
        Check.same("no money yet", 0, state.ofState(1));
        state.review();
        Check.same("one less", 9, state.ofState(4));
        state.programme(1000000, 200, 1);
        Check.same("in place of that", 1, state.ofState(4));
        Check.same("the new target", 1, state.review());
        state.economy(0, 200, 0);
        Check.same("the new target is met", 0, state.review());
        Check.same("the new amount", 1000001, state.ofState(1));
        Check.same("none left", 0, state.ofState(4));
        state.programme(5, 0, 2);
        Check.same("anew", 2, state.ofState(4));
    }

    private static void programmeRefuses() {
        Claimclub state = new Claimclub();
        Check.refusedAt("amount, at first", Check.BAD_ARGUMENT, state, wrong -> state.programme(wrong, 0, 1), -1, 0);
        Check.refused("no programme came", Check.BAD_STATE, state, () -> state.review());
        state.programme(300, 0, 3);
        Check.refusedAt("amount", Check.BAD_ARGUMENT, state, wrong -> state.programme(wrong, -5, 1),
            Integer.MIN_VALUE, -1, 0, 1000001, Integer.MAX_VALUE);
        Check.refusedAt("target", Check.BAD_ARGUMENT, state, wrong -> state.programme(1, wrong, 1),
            Integer.MIN_VALUE, -201, 201, Integer.MAX_VALUE);
        Check.refusedAt("reviews", Check.BAD_ARGUMENT, state, wrong -> state.programme(1, -5, wrong),
            Integer.MIN_VALUE, -1, 0, 11, Integer.MAX_VALUE);
        state.economy(0, -1, 0);
        Check.same("the target is as it was", 1, state.review());
        state.economy(0, 0, 0);
        state.review();
        Check.same("the amount is as it was", 300, state.ofState(1));
    }

    // ---- promise 17

    private static void assureTellsOfChange() {
        Claimclub state = new Claimclub();
        for (int lender = 0; lender <= 7; lender++) {
            Check.same("not given, as it was", false, state.assure(lender, false));
            Check.same("given", true, state.assure(lender, true));
            Check.same("given, as it was", false, state.assure(lender, true));
        }
        Check.same("not given", true, state.assure(3, false));
        Check.same("not given twice", false, state.assure(3, false));
        Check.same("the others stay", false, state.assure(2, true));
        plain(state, 0, 3, 100, 0, 9);
        state.programme(1, 0, 2);
        Check.same("without that of 3", 3, state.review());
        state.assure(3, true);
        Check.same("with that of 3", 0, state.review());
    }

    private static void assureRefuses() {
        Claimclub state = new Claimclub();
        Check.refusedAt("lender", Check.BAD_INDEX, state, wrong -> state.assure(wrong, true),
            Integer.MIN_VALUE, -1, 8, 31, 32, Integer.MAX_VALUE);
        for (int lender = 0; lender <= 7; lender++) {
            Check.same("no assurance came", false, state.assure(lender, false));
        }
    }

    // ---- promise 18

    private static void reviewPays() {
        Claimclub state = new Claimclub();
        state.year(2);
        state.programme(1000, 0, 2);
        Check.same("it does not fail", 0, state.review());
        Check.same("the purse", 1000, state.ofState(1));
        Check.same("the debt", 1000, state.ofState(3));
        long[] due = {Claimclub.OPEN, 1000, 0, 7, 0, 0, 0, Claimclub.NONE};
        for (int what = 0; what < due.length; what++) {
            Check.same("the claim, " + what, due[what], state.ofClaim(0, what));
        }
        Check.same("its coupon", 1000 + 5 * 30, state.value(0, 0));
        Claimclub large = new Claimclub();
        large.programme(1000000, 0, 1);
        large.review();
        Check.same("its coupon, to the hundredth of a percent", 1150000, large.value(0, 0));
        plain(state, 3, 1, 5000, 0, 1);
        state.economy(0, 0, 500);
        Check.same("again", 0, state.review());
        Check.same("none left", 0, state.ofState(4));
        Check.same("all that is there", 2500, state.year(1));
        Check.same("the first is paid first", 30, state.ofClaim(0, 4));
        Check.same("the second comes behind, in the rank 0", 0, state.ofClaim(2, 4));
        Check.same("of the kind FUND", true, state.moratorium(4, true));
        state.economy(0, 0, 5000);
        state.year(1);
        Check.same("of the kind FUND, in its moratorium", 31 + 30, state.ofClaim(2, 2));
        Check.same("of a lender that is not the state", 1000 + 30 + 1000 + 61, state.ofState(3));
    }

    private static void reviewFailsByTheBalance() {
        Claimclub state = new Claimclub();
        plain(state, 4, 1, 1000, 1000, 9);
        plain(state, 0, 1, 1000, 0, 9);
        state.year(1);
        state.programme(1000, 10, 2);
        state.economy(0, 9, 0);
        Check.same("below the target, ahead of all else", 1, state.review());
        state.economy(0, 10, 0);
        Check.same("at the target, the next reason", 2, state.review());
        Check.same("the reviews are as they were", 2, state.ofState(4));
        Check.same("no money", 0, state.ofState(1));
        Check.same("no claim", 2, Seen.claims(state));
        state.programme(1000, -10, 2);
        state.economy(0, -11, 0);
        Check.same("below 0 too", 1, state.review());
    }

    private static void reviewFailsByTheFund() {
        Claimclub state = new Claimclub();
        state.claim(4, 2, 1000, 1000, 9, 0, -1, true);
        plain(state, 0, 1, 1000, 0, 9);
        state.programme(1000, 0, 5);
        Check.same("no arrears yet", 3, state.review());
        state.year(1);
        Check.same("arrears, of a hidden one too", 2, state.review());
        state.economy(0, 0, 204);
        state.year(1);
        Check.same("arrears", 1, state.ofClaim(0, 2));
        Check.same("arrears of 1", 2, state.review());
        state.accept(0, state.offer(0, 0, 9));
        Check.same("swapped, so they are none", 3, state.review());
        int other = plain(state, 2, 3, 1000, 1000, 9);
        state.year(1);
        Check.same("arrears of others do not matter", 100, state.ofClaim(other, 2));
        Check.same("arrears of others do not matter for it", 3, state.review());
    }

    private static void reviewFailsByAssurance() {
        Claimclub state = new Claimclub();
        plain(state, 0, 1, 500, 0, 9);
        plain(state, 2, 2, 500, 0, 9);
        plain(state, 2, 3, 1, 0, 9);
        state.programme(1000, 0, 5);
        Check.same("without assurance", 3, state.review());
        state.assure(1, true);
        Check.same("less than half", 3, state.review());
        state.assure(3, true);
        Check.same("more than half", 0, state.review());
        Claimclub half = new Claimclub();
        plain(half, 0, 1, 500, 0, 9);
        plain(half, 2, 2, 500, 0, 9);
        half.assure(2, true);
        half.programme(1000, 0, 5);
        Check.same("just half", 0, half.review());
        Check.same("a failing one may be done again", 4, half.ofState(4));
        half.year(1);
        half.claim(0, 3, 1, 0, 9, 0, -1, false);
        Check.same("less than half, by 1", 3, half.review());
        Check.same("it is not counted", 4, half.ofState(4));
    }

    private static void reviewCountsOfficialClaimsOnly() {
        Claimclub state = new Claimclub();
        state.programme(1000, 0, 9);
        plain(state, 1, 1, 90000, 0, 9);
        plain(state, 3, 1, 90000, 0, 9);
        plain(state, 4, 1, 90000, 0, 9);
        state.claim(0, 1, 90000, 0, 9, 0, -1, true);
        Check.same("neither bonds, suppliers, the fund nor hidden ones", 0, state.review());
        plain(state, 0, 0, 1000, 0, 9);
        Check.same("the state's own is such as well", 3, state.review());
        state.assure(0, true);
        Check.same("and may give assurance", 0, state.review());
        state.reveal(3);
        Check.same("a revealed one", 3, state.review());
        state.accept(3, state.offer(99, 0, 9));
        Check.same("a swapped one does not count, but its new one", 0, state.review());
        plain(state, 2, 2, 1000, 1000, 9);
        state.assure(0, false);
        state.assure(2, true);
        // 1000 of the state's own, 900 of the club's, 1000 of the bank's.
        Check.same("principals", 3, state.review());
        state.moratorium(2, true);
        state.economy(0, 0, 1000000);
        state.year(10);
        Check.same("the bank's arrears alone are left", 0, state.review());
    }

    private static void reviewRefuses() {
        Claimclub state = new Claimclub();
        Check.refused("no programme", Check.BAD_STATE, state, () -> state.review());
        state.programme(100, 0, 1);
        state.review();
        Check.refused("all were done", Check.BAD_STATE, state, () -> state.review());
        state.programme(100, 0, 2);
        for (int number = 1; number < 39; number++) {
            plain(state, 3, 1, 10, 0, 9);
        }
        Check.same("the last claim", 0, state.review());
        Check.refused("40 claims", Check.BAD_STATE, state, () -> state.review());
        state.economy(0, -1, 0);
        Check.refused("40 claims, though it would fail", Check.BAD_STATE, state, () -> state.review());
        Check.same("one is left", 1, state.ofState(4));
    }
}
