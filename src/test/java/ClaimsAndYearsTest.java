/** Promises 1 to 7: a new object, claim, pledge, reveal, economy, moratorium, year. */
final class ClaimsAndYearsTest {
    private static final int[] NO_NUMBERS = {Integer.MIN_VALUE, -1, 1, 40, Integer.MAX_VALUE};

    public static void main(String[] args) {
        newObject();
        claimTells();
        claimEdges();
        claimRefuses();
        claimIsFullAtForty();
        pledgeMovesMoney();
        pledgeRefuses();
        revealTellsTheDebt();
        revealRefuses();
        economyBringsMoney();
        economyRoundsDown();
        economyRefuses();
        moratoriumTellsOfChange();
        moratoriumStopsThePurseOnly();
        moratoriumRefuses();
        yearPaysFlows();
        yearKeepsArrears();
        yearGoesByRanksThenNumbers();
        yearPaysFromPledgeFirst();
        yearBringsPledgeBackAheadOfTheNext();
        yearPaysOnlyFromAPurseAboveZero();
        yearPassesTheStatesOwn();
        yearKeepsEmptyClaimsOpen();
        yearTakesTheCouponByThePrincipalOfThen();
        yearCountsManyYears();
        yearRefuses();
        Check.end("ClaimsAndYearsTest");
    }

    private static int plain(Claimclub state, int kind, int lender, int principal, int coupon, int years, int rank) {
        return state.claim(kind, lender, principal, coupon, years, rank, kind == Claimclub.BOND ? 0 : Check.NONE, false);
    }

    // ---- promise 1

    private static void newObject() {
        Claimclub state = new Claimclub();
        long[] due = {0, 0, 1000000, 0, 0};
        for (int what = 0; what < due.length; what++) {
            Check.same("new: ofState " + what, due[what], state.ofState(what));
        }
        Check.same("new: no claims", 0, Seen.claims(state));
        Check.same("new: no offers", 0, Seen.offers(state));
        Check.same("new: all alike", true, state.areAlike());
        Check.same("new: bearable", true, state.isBearable(30));
        for (int kind = 0; kind <= 4; kind++) {
            Check.same("new: effort", 0, state.effort(kind));
            Check.same("new: no moratorium", false, state.moratorium(kind, false));
        }
        for (int lender = 0; lender <= 7; lender++) {
            Check.same("new: no assurance", false, state.assure(lender, false));
        }
        Check.refused("new: no programme", Check.BAD_STATE, state, () -> state.review());
        Check.same("new: the discount", 800, state.discount(800));
        Check.same("new: nothing paid", 0, state.year(3));
        Check.same("new: no balance", 0, state.ofState(1));
        Check.same("new: no growth", 1000000, state.ofState(2));
        Check.same("new: thing", 0, state.thing(1));
        Claimclub other = new Claimclub();
        other.claim(0, 1, 5, 0, 1, 0, Check.NONE, false);
        Check.same("objects are apart", 0, new Claimclub().ofState(3));
        Check.same("objects are apart: one's own", 5, other.ofState(3));
    }

    // ---- promise 2

    private static void claimTells() {
        Claimclub state = new Claimclub();
        state.year(7);
        Check.same("the first claim", 0, state.claim(1, 3, 12345, 250, 4, 1, 2, false));
        Check.same("the second claim", 1, state.claim(2, 4, 1000, 0, 30, 0, Check.NONE, true));
        long[] due = {Claimclub.OPEN, 12345, 0, 11, 0, 0, 0, Claimclub.NONE};
        for (int what = 0; what < due.length; what++) {
            Check.same("claim: ofClaim " + what, due[what], state.ofClaim(0, what));
        }
        Check.same("due in the years from now", 37, state.ofClaim(1, 3));
        Check.same("hidden ones are no debt", 12345, state.ofState(3));
        Check.same("the coupon is a flow of each year", 12345 + 4 * 308, state.value(0, 0));
        state.offer(0, 0, 1);
        state.vote(0, 0, true);
        Check.same("its series", true, state.passes(0, 2));
        Check.same("not another series", false, state.passes(0, 1));
        state.claim(0, 0, 777, 0, 1, 0, Check.NONE, false);
        Check.same("the state's own is no debt", 12345, state.ofState(3));
    }

    private static void claimEdges() {
        Claimclub state = new Claimclub();
        Check.same("the least", 0, state.claim(0, 0, 1, 0, 1, 0, -1, false));
        Check.same("the most", 1, state.claim(4, 7, 1000000, 1000, 30, 2, -1, true));
        Check.same("the last series", 2, state.claim(1, 1, 10, 0, 1, 0, 3, false));
        Check.same("the first series", 3, state.claim(1, 1, 10, 0, 1, 0, 0, false));
        Check.same("a bank", 4, state.claim(2, 1, 10, 0, 1, 0, -1, false));
        Check.same("a supplier", 5, state.claim(3, 1, 10, 0, 1, 0, -1, false));
        Check.same("the most: principal", 1000000, state.ofClaim(1, 1));
        Check.same("the most: year", 30, state.ofClaim(1, 3));
        for (int tens = 0; tens < 6; tens++) {
            state.year(10);
        }
        Check.same("a claim may be due after the last year", 6, state.claim(0, 1, 9, 0, 30, 0, -1, false));
        Check.same("due after the last year", 90, state.ofClaim(6, 3));
    }

    private static void claimRefuses() {
        Claimclub state = new Claimclub();
        state.claim(0, 1, 10, 0, 1, 0, -1, false);
        int[] around = {Integer.MIN_VALUE, -1};
        for (int low : around) {
            Check.refused("kind " + low, Check.BAD_ARGUMENT, state, () -> state.claim(low, 1, 10, 0, 1, 0, -1, false));
            Check.refused("lender " + low, Check.BAD_ARGUMENT, state, () -> state.claim(0, low, 10, 0, 1, 0, -1, false));
            Check.refused("coupon " + low, Check.BAD_ARGUMENT, state, () -> state.claim(0, 1, 10, low, 1, 0, -1, false));
            Check.refused("rank " + low, Check.BAD_ARGUMENT, state, () -> state.claim(0, 1, 10, 0, 1, low, -1, false));
            Check.refused("series of a bond " + low, Check.BAD_ARGUMENT, state,
                () -> state.claim(1, 1, 10, 0, 1, 0, low, false));
        }
        Check.refusedAt("kind", Check.BAD_ARGUMENT, state,
            wrong -> state.claim(wrong, 1, 10, 0, 1, 0, -1, false), 5, Integer.MAX_VALUE);
        Check.refusedAt("lender", Check.BAD_ARGUMENT, state,
            wrong -> state.claim(0, wrong, 10, 0, 1, 0, -1, false), 8, Integer.MAX_VALUE);
        Check.refusedAt("principal", Check.BAD_ARGUMENT, state,
            wrong -> state.claim(0, 1, wrong, 0, 1, 0, -1, false), Integer.MIN_VALUE, -1, 0, 1000001, Integer.MAX_VALUE);
        Check.refusedAt("coupon", Check.BAD_ARGUMENT, state,
            wrong -> state.claim(0, 1, 10, wrong, 1, 0, -1, false), 1001, Integer.MAX_VALUE);
        Check.refusedAt("years", Check.BAD_ARGUMENT, state,
            wrong -> state.claim(0, 1, 10, 0, wrong, 0, -1, false), Integer.MIN_VALUE, -1, 0, 31, Integer.MAX_VALUE);
        Check.refusedAt("rank", Check.BAD_ARGUMENT, state,
            wrong -> state.claim(0, 1, 10, 0, 1, wrong, -1, false), 3, Integer.MAX_VALUE);
        Check.refusedAt("series of a bond", Check.BAD_ARGUMENT, state,
            wrong -> state.claim(1, 1, 10, 0, 1, 0, wrong, false), 4, Integer.MAX_VALUE);
        for (int kind : new int[] {0, 2, 3, 4}) {
            Check.refusedAt("series of the kind " + kind, Check.BAD_ARGUMENT, state,
                wrong -> state.claim(kind, 1, 10, 0, 1, 0, wrong, false), Integer.MIN_VALUE, -2, 0, 3, 4);
        }
        Check.same("the next number is as it was", 1, state.claim(0, 1, 10, 0, 1, 0, -1, false));
    }

    private static void claimIsFullAtForty() {
        Claimclub state = new Claimclub();
        for (int number = 0; number < 40; number++) {
            Check.same("number", number, state.claim(3, 2, 10, 0, 1, 0, -1, false));
        }
        Check.refused("a claim too many", Check.BAD_STATE, state, () -> state.claim(3, 2, 10, 0, 1, 0, -1, false));
        Check.refused("arguments come first", Check.BAD_ARGUMENT, state, () -> state.claim(3, 2, 0, 0, 1, 0, -1, false));
        state.economy(0, 0, 1000);
        Check.same("all are paid", 400, state.year(1));
        Check.refused("paid ones count too", Check.BAD_STATE, state, () -> state.claim(3, 2, 10, 0, 1, 0, -1, false));
    }

    // ---- promise 3

    private static void pledgeMovesMoney() {
        Claimclub state = new Claimclub();
        int claim = plain(state, 0, 1, 1000, 0, 3, 0);
        state.economy(0, 0, 1500);
        Check.same("a pledge", 600, state.pledge(claim, 600));
        Check.same("the purse has less", 900, state.ofState(1));
        Check.same("a second one is added", 1499, state.pledge(claim, 899));
        Check.same("the least, and all that is there", 1500, state.pledge(claim, 1));
        Check.same("the purse is empty", 0, state.ofState(1));
        Check.same("what lies aside", 1500, state.ofClaim(claim, 5));
        Check.same("it is no payment", 0, state.ofClaim(claim, 4));
        state.economy(0, 0, 10000000);
        Check.same("the most", 1001500, state.pledge(claim, 1000000));
        int own = plain(state, 2, 0, 1000, 0, 3, 0);
        Check.same("for the state's own too", 5, state.pledge(own, 5));
        int hidden = state.claim(2, 1, 10, 0, 3, 0, -1, true);
        Check.same("for a hidden one too", 6, state.pledge(hidden, 6));
    }

    private static void pledgeRefuses() {
        Claimclub state = new Claimclub();
        Check.refused("without claims", Check.BAD_INDEX, state, () -> state.pledge(0, 1));
        int claim = plain(state, 0, 1, 100, 0, 1, 0);
        state.economy(0, 0, 500);
        Check.refusedAt("claim", Check.BAD_INDEX, state, wrong -> state.pledge(wrong, 0), NO_NUMBERS);
        Check.refusedAt("cents", Check.BAD_ARGUMENT, state, wrong -> state.pledge(claim, wrong),
            Integer.MIN_VALUE, -1, 0, 1000001, Integer.MAX_VALUE);
        Check.refused("more than the purse has", Check.BAD_STATE, state, () -> state.pledge(claim, 501));
        state.year(1);
        Check.refused("a paid one", Check.BAD_STATE, state, () -> state.pledge(claim, 1));
        Check.refused("cents ahead of state", Check.BAD_ARGUMENT, state, () -> state.pledge(claim, 0));
        int swapped = plain(state, 0, 1, 100, 0, 1, 0);
        state.accept(swapped, state.offer(0, 0, 5));
        Check.refused("a swapped one", Check.BAD_STATE, state, () -> state.pledge(swapped, 1));
        state.economy(0, -200, 0);
        state.year(1);
        Check.refused("a purse below 0", Check.BAD_STATE, state, () -> state.pledge(2, 1));
    }

    // ---- promise 4

    private static void revealTellsTheDebt() {
        Claimclub state = new Claimclub();
        plain(state, 0, 1, 100, 0, 9, 0);
        state.claim(2, 2, 30, 0, 9, 0, -1, true);
        state.claim(2, 0, 7, 0, 9, 0, -1, true);
        state.claim(3, 2, 5, 0, 9, 0, -1, true);
        Check.same("hidden before", 100, state.ofState(3));
        Check.same("revealed", 130, state.reveal(1));
        Check.same("revealed, the debt stays so", 130, state.ofState(3));
        Check.same("the state's own is no debt", 130, state.reveal(2));
        state.accept(3, state.offer(0, 0, 9));
        Check.same("a swapped one is no debt", 130, state.reveal(3));
        Check.same("its new one was hidden for itself", 135, state.reveal(4));
    }

    private static void revealRefuses() {
        Claimclub state = new Claimclub();
        Check.refused("without claims", Check.BAD_INDEX, state, () -> state.reveal(0));
        state.claim(0, 1, 10, 0, 1, 0, -1, true);
        Check.refusedAt("claim", Check.BAD_INDEX, state, wrong -> state.reveal(wrong), NO_NUMBERS);
        state.reveal(0);
        Check.refused("twice", Check.BAD_STATE, state, () -> state.reveal(0));
        int open = plain(state, 0, 1, 10, 0, 1, 0);
        Check.refused("never hidden", Check.BAD_STATE, state, () -> state.reveal(open));
    }

    // ---- promise 5

    private static void economyBringsMoney() {
        Claimclub state = new Claimclub();
        Check.same("money", 600, state.economy(1000, 100, 600));
        Check.same("no year went by", 1000000, state.ofState(2));
        state.year(1);
        Check.same("the balance by the output before it grew", 100600, state.ofState(1));
        Check.same("the output grew", 1100000, state.ofState(2));
        state.year(1);
        Check.same("the balance by the grown output", 210600, state.ofState(1));
        Check.same("the output grew again", 1210000, state.ofState(2));
        Check.same("the most", 210600 + 10000000, state.economy(1000, 200, 10000000));
        state.year(1);
        Check.same("the highest balance", 10210600 + 242000, state.ofState(1));
        Check.same("the least", 10452600, state.economy(-1000, -200, 0));
        state.year(1);
        Check.same("the lowest balance", 10452600 - 266200, state.ofState(1));
        Check.same("the lowest growth", 1331000 - 133100, state.ofState(2));
    }

    private static void economyRoundsDown() {
        Claimclub state = new Claimclub();
        state.economy(1, -1, 0);
        state.year(1);
        Check.same("a hundredth of a percent", 1000100, state.ofState(2));
        Check.same("a thousandth", -1000, state.ofState(1));
        state.economy(-1, -1, 0);
        state.year(1);
        Check.same("the balance, down below 0", -1000 - 1001, state.ofState(1));
        Check.same("the growth, down below 0", 1000100 - 101, state.ofState(2));
        state.economy(1, 1, 0);
        state.year(1);
        Check.same("the balance, down above 0", -2001 + 999, state.ofState(1));
        Check.same("the growth, down above 0", 999999 + 99, state.ofState(2));
        Check.same("the purse may be below 0", -1002, state.economy(0, 0, 0));
    }

    private static void economyRefuses() {
        Claimclub state = new Claimclub();
        state.economy(100, 10, 5);
        Check.refusedAt("growth", Check.BAD_ARGUMENT, state, wrong -> state.economy(wrong, 0, 1),
            Integer.MIN_VALUE, -1001, 1001, Integer.MAX_VALUE);
        Check.refusedAt("balance", Check.BAD_ARGUMENT, state, wrong -> state.economy(0, wrong, 1),
            Integer.MIN_VALUE, -201, 201, Integer.MAX_VALUE);
        Check.refusedAt("cents", Check.BAD_ARGUMENT, state, wrong -> state.economy(0, 0, wrong),
            Integer.MIN_VALUE, -1, 10000001, Integer.MAX_VALUE);
        state.year(1);
        Check.same("growth as it was", 1010000, state.ofState(2));
        Check.same("balance as it was", 10005, state.ofState(1));
    }

    // ---- promise 6

    private static void moratoriumTellsOfChange() {
        Claimclub state = new Claimclub();
        for (int kind = Claimclub.CLUB; kind <= Claimclub.FUND; kind++) {
            Check.same("off, as it was", false, state.moratorium(kind, false));
            Check.same("on", true, state.moratorium(kind, true));
            Check.same("on, as it was", false, state.moratorium(kind, true));
        }
        Check.same("off", true, state.moratorium(2, false));
        Check.same("off twice", false, state.moratorium(2, false));
        Check.same("the others stay on", false, state.moratorium(1, true));
    }

    private static void moratoriumStopsThePurseOnly() {
        Claimclub state = new Claimclub();
        for (int kind = Claimclub.CLUB; kind <= Claimclub.FUND; kind++) {
            plain(state, kind, 1, 1000, 1000, 9, 0);
        }
        state.economy(0, 0, 10000);
        state.pledge(3, 30);
        state.moratorium(Claimclub.SUPPLIER, true);
        Check.same("four are paid, and one from its pledge", 430, state.year(1));
        Check.same("the rest stays as arrears", 70, state.ofClaim(3, 2));
        Check.same("the pledge is used up", 0, state.ofClaim(3, 5));
        state.moratorium(Claimclub.SUPPLIER, false);
        Check.same("all is paid", 400 + 100 + 73, state.year(1));
    }

    private static void moratoriumRefuses() {
        Claimclub state = new Claimclub();
        Check.refusedAt("kind", Check.BAD_INDEX, state, wrong -> state.moratorium(wrong, true),
            Integer.MIN_VALUE, -1, 5, 31, 32, Integer.MAX_VALUE);
        for (int kind = Claimclub.CLUB; kind <= Claimclub.FUND; kind++) {
            Check.same("no moratorium came", false, state.moratorium(kind, false));
        }
    }

    // ---- promise 7

    private static void yearPaysFlows() {
        Claimclub state = new Claimclub();
        int claim = plain(state, 2, 1, 1009, 990, 2, 0);
        state.economy(0, 0, 5000);
        Check.same("the coupon, rounded down", 99, state.year(1));
        Check.same("open yet", Claimclub.OPEN, state.ofClaim(claim, 0));
        Check.same("the principal stays", 1009, state.ofClaim(claim, 1));
        Check.same("the coupon with the principal", 1108, state.year(1));
        Check.same("paid", Claimclub.PAID, state.ofClaim(claim, 0));
        Check.same("no principal", 0, state.ofClaim(claim, 1));
        Check.same("no arrears", 0, state.ofClaim(claim, 2));
        Check.same("paid so far", 1207, state.ofClaim(claim, 4));
        Check.same("paid so far, anew", 1207, state.paidAnew(claim));
        Check.same("the purse", 3793, state.ofState(1));
        Check.same("nothing more", 0, state.year(1));
        Check.same("the year", 3, state.ofState(0));
    }

    private static void yearKeepsArrears() {
        Claimclub state = new Claimclub();
        int claim = plain(state, 2, 1, 1000, 1000, 2, 0);
        Check.same("an empty purse", 0, state.year(1));
        Check.same("the coupon is in arrears", 100, state.ofClaim(claim, 2));
        state.year(1);
        Check.same("arrears grow first, then come flows", 105 + 100 + 1000, state.ofClaim(claim, 2));
        Check.same("the principal is in the arrears", 0, state.ofClaim(claim, 1));
        Check.same("open while there are arrears", Claimclub.OPEN, state.ofClaim(claim, 0));
        Check.same("owed", 1205, state.ofState(3));
        state.year(2);
        Check.same("no coupon after that, arrears grow, rounded down", 1265 + 63, state.ofClaim(claim, 2));
        state.economy(0, 0, 500);
        Check.same("a part", 500, state.year(1));
        Check.same("the rest", 1328 + 66 - 500, state.ofClaim(claim, 2));
        state.economy(0, 0, 10000);
        Check.same("the rest is paid", 894 + 44, state.year(1));
        Check.same("paid after it was due", Claimclub.PAID, state.ofClaim(claim, 0));
        Check.same("in all", 1438, state.paidAnew(claim));
    }

    private static void yearGoesByRanksThenNumbers() {
        Claimclub state = new Claimclub();
        int[] ranks = {2, 0, 1, 0, 1};
        for (int rank : ranks) {
            plain(state, 0, 1, 1000, 1000, 9, rank);
        }
        state.economy(0, 0, 250);
        Check.same("all that is there", 250, state.year(1));
        long[] due = {0, 100, 50, 100, 0};
        for (int claim = 0; claim < due.length; claim++) {
            Check.same("what claim " + claim + " got", due[claim], state.ofClaim(claim, 4));
            Check.same("what stays of claim " + claim, 100 - due[claim], state.ofClaim(claim, 2));
        }
    }

    private static void yearPaysFromPledgeFirst() {
        Claimclub state = new Claimclub();
        int claim = plain(state, 0, 1, 1000, 1000, 9, 0);
        int other = plain(state, 0, 1, 1000, 1000, 9, 0);
        state.economy(0, 0, 400);
        state.pledge(claim, 260);
        Check.same("both", 200, state.year(1));
        Check.same("the pledge", 160, state.ofClaim(claim, 5));
        Check.same("the purse", 40, state.ofState(1));
        Check.same("the purse is for the next", 140, state.year(1));
        Check.same("the pledge, again", 60, state.ofClaim(claim, 5));
        Check.same("the other has arrears", 60, state.ofClaim(other, 2));
        state.economy(0, 0, 45);
        Check.same("from both", 105, state.year(1));
        Check.same("the purse goes by numbers", 100, state.ofClaim(claim, 4) - 200);
        Check.same("nothing lies aside now", 0, state.ofClaim(claim, 5));
        Check.same("the other's share", 63 + 100 - 5, state.ofClaim(other, 2));
    }

    private static void yearBringsPledgeBackAheadOfTheNext() {
        Claimclub state = new Claimclub();
        int early = plain(state, 0, 1, 3000, 1000, 9, 0);
        int ending = plain(state, 0, 1, 100, 0, 1, 0);
        int late = plain(state, 0, 1, 3000, 1000, 9, 0);
        state.economy(0, 0, 350);
        state.pledge(ending, 350);
        Check.same("the ending one, and the next from what it left", 350, state.year(1));
        Check.same("not the one before", 0, state.ofClaim(early, 4));
        Check.same("the next one", 250, state.ofClaim(late, 4));
        Check.same("nothing lies aside", 0, state.ofClaim(ending, 5));
        Check.same("paid", Claimclub.PAID, state.ofClaim(ending, 0));
        Check.same("the purse", 0, state.ofState(1));
        state.economy(0, 0, 1000);
        state.pledge(late, 900);
        state.year(1);
        Check.same("what lies aside for an open one stays there", 900 - 300 - 50 - 2, state.ofClaim(late, 5));
    }

    private static void yearPaysOnlyFromAPurseAboveZero() {
        Claimclub state = new Claimclub();
        int claim = plain(state, 0, 1, 1000, 1000, 1, 0);
        state.economy(0, 0, 500);
        state.pledge(claim, 30);
        state.economy(0, -1, 0);
        Check.same("only the pledge", 30, state.year(1));
        Check.same("the purse is below 0", 470 - 1000, state.ofState(1));
        Check.same("the arrears", 1070, state.ofClaim(claim, 2));
        int other = plain(state, 0, 1, 100, 0, 1, 0);
        state.economy(0, -1, 800);
        state.pledge(other, 180);
        state.year(1);
        Check.same("a pledge comes back to a purse below 0", 270 - 180 - 1000 + 80, state.ofState(1));
        Check.same("that other is paid", Claimclub.PAID, state.ofClaim(other, 0));
        Claimclub poor = new Claimclub();
        plain(poor, 0, 1, 1000, 1000, 1, 0);
        poor.economy(0, 0, 1);
        Check.same("a purse of 1", 1, poor.year(1));
    }

    private static void yearPassesTheStatesOwn() {
        Claimclub state = new Claimclub();
        int own = plain(state, 1, 0, 1000, 1000, 2, 0);
        int next = plain(state, 0, 1, 1000, 1000, 9, 0);
        state.economy(0, 0, 100);
        state.pledge(own, 60);
        Check.same("only the other is paid", 40, state.year(1));
        Check.same("no arrears", 0, state.ofClaim(own, 2));
        Check.same("what lies aside stays", 60, state.ofClaim(own, 5));
        Check.same("open", Claimclub.OPEN, state.ofClaim(own, 0));
        Check.same("its pledge comes to the purse ahead of the next", 60, state.year(1));
        Check.same("paid, as it is due", Claimclub.PAID, state.ofClaim(own, 0));
        Check.same("its principal stays told", 1000, state.ofClaim(own, 1));
        Check.same("nothing was paid to it", 0, state.ofClaim(own, 4));
        Check.same("nothing lies aside for it", 0, state.ofClaim(own, 5));
        Check.same("the next", 100, state.ofClaim(next, 4));
    }

    private static void yearKeepsEmptyClaimsOpen() {
        Claimclub state = new Claimclub();
        plain(state, 0, 1, 1, 0, 9, 0);
        int empty = state.accept(0, state.offer(99, 1000, 2));
        Check.same("a principal of 0", 0, state.ofClaim(empty, 1));
        state.year(1);
        Check.same("open till it is due", Claimclub.OPEN, state.ofClaim(empty, 0));
        state.year(1);
        Check.same("paid as it is due", Claimclub.PAID, state.ofClaim(empty, 0));
    }

    private static void yearTakesTheCouponByThePrincipalOfThen() {
        Claimclub state = new Claimclub();
        int claim = plain(state, 0, 1, 1000, 1000, 9, 0);
        state.year(1);
        state.sue(claim);
        state.year(1);
        Check.same("arrears", 205, state.ofClaim(claim, 2));
        state.seize(claim, state.thing(605));
        Check.same("what is left of the principal", 600, state.ofClaim(claim, 1));
        state.economy(0, 0, 1000);
        Check.same("the coupon by it", 60, state.year(1));
    }

    private static void yearCountsManyYears() {
        Claimclub together = new Claimclub();
        Claimclub oneByOne = new Claimclub();
        long sum = 0;
        for (Claimclub state : new Claimclub[] {together, oneByOne}) {
            state.economy(150, 3, 20000);
            plain(state, 0, 1, 30000, 777, 4, 1);
            plain(state, 1, 2, 40000, 333, 9, 0);
            plain(state, 4, 7, 50000, 111, 30, 2);
            state.pledge(2, 5000);
        }
        for (int year = 0; year < 10; year++) {
            sum += oneByOne.year(1);
        }
        Check.same("ten years at once", sum, together.year(10));
        Check.same("all the same", Seen.of(oneByOne), Seen.of(together));
    }

    private static void yearRefuses() {
        Claimclub state = new Claimclub();
        Check.refusedAt("years", Check.BAD_ARGUMENT, state, wrong -> state.year(wrong),
            Integer.MIN_VALUE, -1, 0, 11, Integer.MAX_VALUE);
        for (int tens = 0; tens < 5; tens++) {
            state.year(10);
        }
        state.year(1);
        Check.refused("above 60", Check.BAD_STATE, state, () -> state.year(10));
        Check.same("up to 60", 0, state.year(9));
        Check.same("the last year", 60, state.ofState(0));
        Check.refused("above 60 by one", Check.BAD_STATE, state, () -> state.year(1));
        Check.refused("arguments come first", Check.BAD_ARGUMENT, state, () -> state.year(11));
    }
}
