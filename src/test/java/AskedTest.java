/** Promises 19 to 27: value, offered, effort, areAlike, passes, isBearable, ofClaim, paidAnew, ofState. */
final class AskedTest {
    private static final int[] NO_NUMBERS = {Integer.MIN_VALUE, -1, 1, 12, 40, Integer.MAX_VALUE};

    public static void main(String[] args) {
        valueDiscountsFlows();
        valueAddsArrears();
        valueRefuses();
        offeredIsWhatANewOneWouldBe();
        offeredRefuses();
        effortAddsUp();
        effortRoundsDown();
        effortMayBeBelowZero();
        effortRefuses();
        alikeWithinTwoHundred();
        alikeLooksAtSwappedKinds();
        seriesPassByThreeQuarters();
        seriesPassByWhatIsOwed();
        seriesArePooled();
        passesRefuses();
        bearableByTheHighestDebt();
        bearableByTheLastDebt();
        bearableTakesFirstTheDebtThenTheOutput();
        bearableDebtIsAtLeastZero();
        bearableChangesNothing();
        bearableRefuses();
        ofClaimRefuses();
        paidAnewAddsAllPayments();
        paidAnewRefuses();
        ofStateTells();
        ofStateRefuses();
        Check.end("AskedTest");
    }

    private static int plain(Claimclub state, int kind, int principal, int coupon, int years) {
        return state.claim(kind, 1, principal, coupon, years, 0, kind == Claimclub.BOND ? 0 : Check.NONE, false);
    }

    private static int bond(Claimclub state, int lender, int principal, int series) {
        return state.claim(Claimclub.BOND, lender, principal, 0, 9, 0, series, false);
    }

    /** A claim of that kind is swapped, at no discount: it was worth 10000, and is that less the cut. */
    private static void swapWithCut(Claimclub state, int kind, int cut) {
        state.discount(0);
        state.accept(plain(state, kind, 10000, 0, 9), state.offer(cut, 0, 9));
    }

    // ---- promise 19

    private static void valueDiscountsFlows() {
        Claimclub state = new Claimclub();
        plain(state, 0, 10000, 500, 2);
        Check.same("from the last flow to the next", 9464, state.value(0, 800));
        Check.same("at no rate", 11000, state.value(0, 0));
        // 10500 * 10000 / 11500 is 9130, 9630 * 10000 / 11500 is 8373.
        Check.same("at the highest rate", 8373, state.value(0, 1500));
        state.economy(0, 0, 100000);
        state.year(1);
        Check.same("a year later", 9722, state.value(0, 800));
        state.year(1);
        Check.same("a paid one is worth nothing", 0, state.value(0, 800));
        plain(state, 0, 1000, 0, 3);
        // 925, 856, 792.
        Check.same("years without a flow", 792, state.value(1, 800));
        state.claim(0, 0, 1000, 0, 1, 0, -1, true);
        Check.same("the state's own, a hidden one", 925, state.value(2, 800));
        state.accept(1, state.offer(0, 0, 3));
        Check.same("a swapped one is worth nothing", 0, state.value(1, 0));
        plain(state, 0, 1, 1000, 30);
        Check.same("rounded down each time", 0, state.value(4, 1));
        plain(state, 0, 1000000, 1000, 30);
        Check.same("a large one", 4000000, state.value(5, 0));
    }

    private static void valueAddsArrears() {
        Claimclub state = new Claimclub();
        plain(state, 0, 1000, 1000, 3);
        state.year(1);
        // 1100 in two years, 100 in one: 1018, 1118 to 1035, and arrears of 100.
        Check.same("arrears are not discounted", 1035 + 100, state.value(0, 800));
        state.year(2);
        Check.same("after it was due arrears alone", 1105 + 105 + 105, state.value(0, 800));
        state.year(1);
        Check.same("after it was due arrears alone, later", 1315 + 65, state.value(0, 0));
    }

    private static void valueRefuses() {
        Claimclub state = new Claimclub();
        Check.refused("without claims", Check.BAD_INDEX, state, () -> state.value(0, 0));
        plain(state, 0, 1000, 0, 3);
        Check.refusedAt("claim", Check.BAD_INDEX, state, wrong -> state.value(wrong, -1), NO_NUMBERS);
        Check.refusedAt("rate", Check.BAD_ARGUMENT, state, wrong -> state.value(0, wrong),
            Integer.MIN_VALUE, -10000, -1, 1501, Integer.MAX_VALUE);
    }

    // ---- promise 20

    private static void offeredIsWhatANewOneWouldBe() {
        Claimclub state = new Claimclub();
        state.claim(2, 1, 999, 1000, 2, 0, -1, true);
        state.claim(1, 0, 999, 1000, 9, 0, 3, false);
        state.offer(30, 500, 2);
        state.offer(0, 0, 30);
        state.year(1);
        // 999 and 99 are owed, 768 by 70 percent, 38 a year: 806 to 746, 784 to 725.
        Check.same("offered", 725, state.offered(0, 0, 800));
        Check.same("at no rate", 768 + 76, state.offered(0, 0, 0));
        Check.same("at the highest rate", 641, state.offered(0, 0, 1500));
        Check.same("a bond, the state's own, without arrears", 699 + 68, state.offered(1, 0, 0));
        Check.same("another offer", 1098, state.offered(0, 1, 0));
        long[] offered = {state.offered(0, 0, 800), state.offered(0, 1, 777)};
        state.accept(0, 0);
        Check.same("it comes to that", offered[0], state.value(2, 800));
        Check.same("a swapped one", 0, state.offered(0, 0, 800));
        state.economy(0, 0, 100000);
        state.year(2);
        Check.same("a paid one", 0, state.offered(2, 0, 800));
    }

    private static void offeredRefuses() {
        Claimclub state = new Claimclub();
        plain(state, 0, 1000, 0, 3);
        Check.refused("without offers", Check.BAD_INDEX, state, () -> state.offered(0, 0, 0));
        state.offer(0, 0, 3);
        Check.refusedAt("claim", Check.BAD_INDEX, state, wrong -> state.offered(wrong, 0, -1), NO_NUMBERS);
        Check.refusedAt("offer", Check.BAD_INDEX, state, wrong -> state.offered(0, wrong, -1), NO_NUMBERS);
        Check.refusedAt("rate", Check.BAD_ARGUMENT, state, wrong -> state.offered(0, 0, wrong),
            Integer.MIN_VALUE, -1, 1501, Integer.MAX_VALUE);
        state.accept(0, 0);
        Check.refused("rate, though it is not open", Check.BAD_ARGUMENT, state, () -> state.offered(0, 0, -1));
    }

    // ---- promise 21

    private static void effortAddsUp() {
        Claimclub state = new Claimclub();
        swapWithCut(state, 0, 10);
        Check.same("one", 1000, state.effort(0));
        swapWithCut(state, 0, 40);
        Check.same("two, added up", 2500, state.effort(0));
        state.discount(1500);
        state.year(1);
        Check.same("as they were right then", 2500, state.effort(0));
        swapWithCut(state, 4, 99);
        Check.same("by kinds", 9900, state.effort(4));
        Check.same("by kinds, as it was", 2500, state.effort(0));
        Check.same("a kind without swaps", 0, state.effort(3));
        Claimclub bonds = new Claimclub();
        bonds.discount(0);
        bond(bonds, 1, 3000, 1);
        bond(bonds, 0, 1000, 1);
        bonds.offer(50, 500, 2);
        bonds.vote(0, 0, true);
        bonds.settle(0);
        // 1500 and 75 a year, 500 and 25 a year: 1650 and 550 by 4000.
        Check.same("the state's own with them", 4500, bonds.effort(1));
    }

    private static void effortRoundsDown() {
        Claimclub state = new Claimclub();
        state.discount(0);
        state.accept(plain(state, 0, 3, 0, 9), state.offer(50, 0, 9));
        Check.same("10000 times 1, divided by 3", 10000 - 3333, state.effort(0));
    }

    private static void effortMayBeBelowZero() {
        Claimclub state = new Claimclub();
        state.discount(0);
        state.accept(plain(state, 0, 1000, 0, 9), state.offer(0, 1000, 30));
        Check.same("more than before", 10000 - 40000, state.effort(0));
        state.discount(1500);
        state.accept(plain(state, 2, 1, 0, 30), state.offer(0, 0, 1));
        Check.same("worth nothing before", 0, state.effort(2));
    }

    private static void effortRefuses() {
        Claimclub state = new Claimclub();
        Check.refusedAt("kind", Check.BAD_INDEX, state, wrong -> state.effort(wrong),
            Integer.MIN_VALUE, -1, 5, Integer.MAX_VALUE);
    }

    // ---- promise 22

    private static void alikeWithinTwoHundred() {
        for (int kind = Claimclub.BANK; kind <= Claimclub.FUND; kind++) {
            Claimclub state = new Claimclub();
            swapWithCut(state, 0, 30);
            swapWithCut(state, kind, 28);
            Check.same("a gap of 200", true, state.areAlike());
            state.accept(plain(state, 0, 100000, 0, 9), state.offer(31, 0, 9));
            Check.same("a gap above 200", false, state.areAlike());
            swapWithCut(state, kind, 40);
            Check.same("an effort above the club's", true, state.areAlike());
        }
        Claimclub state = new Claimclub();
        swapWithCut(state, 0, 30);
        bond(state, 0, 100, 2);
        bond(state, 1, 100, 2);
        state.offer(27, 0, 9);
        state.vote(2 + 1, 1, true);
        Check.same("not swapped yet", true, state.areAlike());
        Claimclub fine = new Claimclub();
        fine.discount(0);
        fine.accept(plain(fine, 2, 10000, 0, 9), fine.offer(28, 0, 9));
        fine.accept(plain(fine, 0, 9999, 0, 9), fine.offer(30, 0, 9));
        // The club's is worth 6999 of 9999, that is an effort of 10000 less 6999.
        Check.same("an effort of the club's", 3001, fine.effort(0));
        Check.same("a gap of 201, of the first claim", false, fine.areAlike());
        state.settle(1);
        Check.same("bonds with a gap of 300", false, state.areAlike());
    }

    private static void alikeLooksAtSwappedKinds() {
        Claimclub state = new Claimclub();
        plain(state, 2, 100, 0, 9);
        swapWithCut(state, 0, 90);
        Check.same("the club alone", true, state.areAlike());
        state.discount(1500);
        state.accept(plain(state, 3, 1, 0, 30), state.offer(0, 0, 1));
        Check.same("an effort of 0, for nothing was worth anything, is a gap", false, state.areAlike());
        Claimclub own = new Claimclub();
        swapWithCut(own, 0, 90);
        own.accept(own.claim(3, 0, 1000, 0, 9, 0, -1, false), own.offer(0, 0, 9));
        Check.same("the state's own counts", false, own.areAlike());
        Claimclub none = new Claimclub();
        swapWithCut(none, 2, 0);
        Check.same("a club without swaps has an effort of 0", true, none.areAlike());
        none.accept(plain(none, 2, 1000, 0, 9), none.offer(0, 1000, 30));
        Check.same("an effort below 0 is a gap to it", false, none.areAlike());
    }

    // ---- promise 23

    private static void seriesPassByThreeQuarters() {
        Claimclub state = new Claimclub();
        bond(state, 1, 74, 2);
        bond(state, 2, 25, 2);
        bond(state, 3, 1, 2);
        bond(state, 0, 5000, 2);
        state.offer(0, 0, 9);
        state.vote(0, 0, true);
        state.vote(1, 0, false);
        Check.same("74 of 100", false, state.passes(0, 2));
        state.vote(2, 0, true);
        Check.same("75 of 100, the state's own is not counted", true, state.passes(0, 2));
        for (int series : new int[] {0, 1, 3}) {
            Check.same("nothing is owed in another", false, state.passes(0, series));
        }
        state.claim(1, 4, 1, 0, 9, 0, 2, true);
        Check.same("75 of 101, hidden ones are counted", false, state.passes(0, 2));
    }

    private static void seriesPassByWhatIsOwed() {
        Claimclub state = new Claimclub();
        plain(state, 1, 1000, 1000, 9);
        bond(state, 1, 340, 0);
        state.offer(0, 0, 9);
        state.vote(0, 0, true);
        Check.same("1000 of 1340", false, state.passes(0, 0));
        state.year(1);
        Check.same("1100 of 1440, with arrears", true, state.passes(0, 0));
        Claimclub empty = new Claimclub();
        bond(empty, 1, 1, 0);
        empty.offer(99, 0, 9);
        empty.vote(0, 0, true);
        empty.settle(0);
        empty.vote(1, 0, true);
        Check.same("nothing is owed", false, empty.passes(0, 0));
        Check.same("nothing is owed, pooled", false, empty.passes(0, -1));
    }

    private static void seriesArePooled() {
        Claimclub state = new Claimclub();
        bond(state, 1, 60, 0);
        bond(state, 2, 10, 0);
        bond(state, 3, 5, 1);
        bond(state, 4, 1, 1);
        bond(state, 5, 5, 1);
        bond(state, 6, 19, 3);
        bond(state, 0, 5000, 2);
        state.offer(0, 0, 9);
        state.vote(0, 0, true);
        state.vote(2, 0, true);
        Check.same("65 of 100", false, state.passes(0, -1));
        state.vote(3, 0, true);
        Check.same("66 of 100, but none of 19", false, state.passes(0, -1));
        state.vote(5, 0, true);
        Check.same("85 of 100, 6 of 11", true, state.passes(0, -1));
        state.vote(3, 0, false);
        Check.same("84 of 100, 5 of 11", false, state.passes(0, -1));
        bond(state, 7, 1, 1);
        state.vote(7, 0, true);
        Check.same("85 of 101, 6 of 12, a half", true, state.passes(0, -1));
        Claimclub sharp = new Claimclub();
        bond(sharp, 1, 33, 0);
        bond(sharp, 1, 33, 1);
        bond(sharp, 1, 17, 0);
        bond(sharp, 1, 17, 1);
        sharp.offer(0, 0, 9);
        Check.same("no votes", false, sharp.passes(0, -1));
        sharp.vote(0, 0, true);
        sharp.vote(1, 0, true);
        Check.same("just 66 of 100", true, sharp.passes(0, -1));
        for (int series = 0; series <= 3; series++) {
            Claimclub half = new Claimclub();
            bond(half, 1, 1000, (series + 1) % 4);
            bond(half, 2, 100, series);
            bond(half, 3, 99, series);
            half.offer(0, 0, 9);
            half.vote(0, 0, true);
            half.vote(2, 0, true);
            Check.same("99 of 199 in the series " + series, false, half.passes(0, -1));
            bond(half, 4, 1, series);
            half.vote(3, 0, true);
            Check.same("100 of 200 in the series " + series, true, half.passes(0, -1));
        }
        Check.same("66 of 100 in a series are too few", false, sharp.passes(0, 0));
        bond(sharp, 0, 9999, 1);
        Check.same("the state's own is not counted", true, sharp.passes(0, -1));
        bond(sharp, 1, 1, 1);
        Check.same("66 of 101", false, sharp.passes(0, -1));
        Check.same("no bonds at all", false, withOfferOnly().passes(0, -1));
    }

    private static Claimclub withOfferOnly() {
        Claimclub state = new Claimclub();
        state.offer(0, 0, 9);
        plain(state, 0, 100, 0, 9);
        bond(state, 0, 100, 0);
        return state;
    }

    private static void passesRefuses() {
        Claimclub state = new Claimclub();
        bond(state, 1, 100, 0);
        Check.refused("without offers", Check.BAD_INDEX, state, () -> state.passes(0, 0));
        state.offer(0, 0, 9);
        Check.refusedAt("offer", Check.BAD_INDEX, state, wrong -> state.passes(wrong, 0), NO_NUMBERS);
        Check.refusedAt("series", Check.BAD_INDEX, state, wrong -> state.passes(0, wrong),
            Integer.MIN_VALUE, -2, 4, 31, 32, Integer.MAX_VALUE);
    }

    // ---- promise 24

    private static Claimclub withDebt(int millions, int rest) {
        Claimclub state = new Claimclub();
        for (int i = 0; i < millions; i++) {
            plain(state, 0, 1000000, 0, 30);
        }
        plain(state, 0, rest, 0, 30);
        return state;
    }

    private static void bearableByTheHighestDebt() {
        Claimclub state = withDebt(1, 200000);
        state.discount(0);
        Check.same("120 percent of the output", true, state.isBearable(1));
        plain(state, 0, 1, 0, 30);
        Check.same("above it by 1", false, state.isBearable(1));
        state.economy(0, 1, 0);
        Check.same("the debt of now is not one of them", true, state.isBearable(1));
        Claimclub later = withDebt(1, 100000);
        later.discount(1000);
        later.economy(0, 9, 0);
        Check.same("in the first year 1201000", false, later.isBearable(1));
        Claimclub hump = withDebt(1, 150000);
        hump.discount(500);
        hump.economy(-300, 70, 0);
        // The debt is 1137500, the output 970000: 117 percent; then 1126475 by 940900: 119.7; then 121.8.
        Check.same("two years", false, hump.isBearable(2));
        hump.economy(0, 55, 0);
        Check.same("it sinks too little", false, hump.isBearable(2));
        hump.economy(0, 58, 0);
        Check.same("it sinks", true, hump.isBearable(2));
        Check.same("it sinks for long", true, hump.isBearable(30));
    }

    private static void bearableByTheLastDebt() {
        Claimclub state = withDebt(0, 10000);
        state.discount(1000);
        state.economy(0, 1, 0);
        Check.same("it stays", true, state.isBearable(30));
        plain(state, 0, 10, 0, 30);
        Check.same("it grows by 1", false, state.isBearable(1));
        Claimclub growing = withDebt(0, 10000);
        growing.discount(200);
        growing.economy(200, 0, 0);
        Check.same("it grows as the output does", true, growing.isBearable(1));
        growing.discount(201);
        Check.same("it grows above the output, but not in millionths", true, growing.isBearable(1));
        growing.discount(202);
        Check.same("it grows above the output", false, growing.isBearable(1));
        Claimclub sharp = withDebt(0, 10000);
        sharp.economy(100, 0, 0);
        sharp.discount(101);
        // 10101 by 1010000 is 10000.99 millionths.
        Check.same("just below a millionth more", true, sharp.isBearable(1));
        sharp.discount(102);
        Check.same("a millionth more", false, sharp.isBearable(1));
        Claimclub hidden = new Claimclub();
        hidden.claim(0, 1, 1000000, 0, 9, 0, -1, true);
        hidden.claim(0, 1, 1000000, 0, 9, 0, -1, true);
        hidden.claim(0, 0, 1000000, 0, 9, 0, -1, false);
        hidden.claim(0, 0, 1000000, 0, 9, 0, -1, false);
        Check.same("neither hidden ones nor the state's own", true, hidden.isBearable(30));
        hidden.reveal(0);
        hidden.reveal(1);
        Check.same("revealed", false, hidden.isBearable(30));
        Claimclub none = new Claimclub();
        none.economy(0, -1, 0);
        Check.same("none now, but a balance below 0", false, none.isBearable(1));
    }

    private static void bearableTakesFirstTheDebtThenTheOutput() {
        Claimclub state = withDebt(0, 10000);
        state.discount(0);
        state.economy(1000, -1, 0);
        // 11000 by 1100000 is as it was, if the balance is by the output before it grew.
        Check.same("the balance by the output of then", true, state.isBearable(1));
        Check.same("then by the grown one", true, state.isBearable(2));
        state.economy(-1000, 1, 0);
        // 9000 by 900000, likewise.
        Check.same("with less output", true, state.isBearable(1));
        Check.same("with less output, two years", true, state.isBearable(2));
        Claimclub order = withDebt(0, 10000);
        order.discount(1000);
        order.economy(0, 1, 0);
        // More by itself first: 11000 less 1000; the other way round it would be 9900.
        plain(order, 0, 9, 0, 30);
        // 10009 is 11009 then (1000.9 rounded down), less 1000.
        Check.same("more by itself first, rounded down", true, order.isBearable(1));
        plain(order, 0, 1, 0, 30);
        Check.same("more by itself first", false, order.isBearable(1));
        Claimclub rounded = withDebt(0, 10000);
        rounded.discount(0);
        rounded.economy(1, -1, 0);
        rounded.year(1);
        // The output is 1000100; below 0 the balance brings -1001.
        rounded.economy(1000, -1, 0);
        Check.same("rounded down below 0", true, rounded.isBearable(1));
    }

    private static void bearableDebtIsAtLeastZero() {
        Claimclub state = withDebt(0, 1000);
        state.discount(0);
        state.economy(0, 200, 0);
        Check.same("it sinks to 0", true, state.isBearable(30));
        Claimclub back = withDebt(0, 500);
        back.economy(0, 200, 0);
        Check.same("0 now and then", true, back.isBearable(1));
        Claimclub none = new Claimclub();
        none.economy(0, 200, 0);
        Check.same("no debt", true, none.isBearable(1));
    }

    private static void bearableChangesNothing() {
        Claimclub state = withDebt(0, 1000);
        state.economy(300, 20, 77);
        String before = Seen.of(state);
        state.isBearable(30);
        Check.same("nothing changes", before, Seen.of(state));
        Check.same("the output", 1000000, state.ofState(2));
        for (int tens = 0; tens < 6; tens++) {
            state.year(10);
        }
        Check.same("in the last year too", true, state.isBearable(30));
    }

    private static void bearableRefuses() {
        Claimclub state = withDebt(0, 1000);
        Check.refusedAt("years", Check.BAD_ARGUMENT, state, wrong -> state.isBearable(wrong),
            Integer.MIN_VALUE, -1, 0, 31, Integer.MAX_VALUE);
    }

    // ---- promise 25, whose answers the tests of the other promises use throughout

    private static void ofClaimRefuses() {
        Claimclub state = new Claimclub();
        Check.refused("without claims", Check.BAD_INDEX, state, () -> state.ofClaim(0, 0));
        plain(state, 0, 100, 0, 9);
        Check.refusedAt("claim", Check.BAD_INDEX, state, wrong -> state.ofClaim(wrong, 8), NO_NUMBERS);
        Check.refusedAt("what", Check.BAD_ARGUMENT, state, wrong -> state.ofClaim(0, wrong),
            Integer.MIN_VALUE, -1, 8, Integer.MAX_VALUE);
        Check.same("the first", 0, state.ofClaim(0, 0));
        Check.same("the last", -1, state.ofClaim(0, 7));
    }

    // ---- promise 26

    private static void paidAnewAddsAllPayments() {
        Claimclub state = new Claimclub();
        plain(state, 0, 1000000, 1000, 30);
        state.economy(0, 0, 50000);
        state.pledge(0, 20000);
        state.year(1);
        Check.same("by pledge and purse", 50000, state.paidAnew(0));
        state.sue(0);
        long sum = 50000;
        for (int year = 2; year <= 51; year++) {
            state.economy(0, 0, 1000 + year);
            sum += state.year(1);
            Check.same("by years", sum, state.paidAnew(0));
        }
        for (int thing = 0; thing < 10; thing++) {
            sum += state.seize(0, state.thing(10 + thing));
            Check.same("by things", sum, state.paidAnew(0));
        }
        for (int year = 52; year <= 60; year++) {
            state.economy(0, 0, 1000 + year);
            sum += state.year(1);
            Check.same("by years to the last one", sum, state.paidAnew(0));
        }
        Check.same("as told", state.ofClaim(0, 4), state.paidAnew(0));
        state.accept(0, state.offer(0, 0, 1));
        Check.same("stays told as it is swapped", sum, state.paidAnew(0));
        Check.same("the new one begins anew", 0, state.paidAnew(1));
    }

    private static void paidAnewRefuses() {
        Claimclub state = new Claimclub();
        Check.refused("without claims", Check.BAD_INDEX, state, () -> state.paidAnew(0));
        plain(state, 0, 100, 0, 9);
        Check.refusedAt("claim", Check.BAD_INDEX, state, wrong -> state.paidAnew(wrong), NO_NUMBERS);
    }

    // ---- promise 27

    private static void ofStateTells() {
        Claimclub state = new Claimclub();
        state.economy(500, 7, 11);
        state.year(2);
        plain(state, 1, 300, 0, 9);
        plain(state, 3, 30, 0, 9);
        state.claim(0, 1, 5, 0, 9, 0, -1, true);
        state.claim(0, 0, 6, 0, 9, 0, -1, false);
        state.programme(5, 0, 4);
        long[] due = {2, 11 + 7000 + 7350, 1102500, 330, 4};
        for (int what = 0; what < due.length; what++) {
            Check.same("ofState " + what, due[what], state.ofState(what));
        }
    }

    private static void ofStateRefuses() {
        Claimclub state = new Claimclub();
        Check.refusedAt("what", Check.BAD_ARGUMENT, state, wrong -> state.ofState(wrong),
            Integer.MIN_VALUE, -1, 5, Integer.MAX_VALUE);
    }
}
