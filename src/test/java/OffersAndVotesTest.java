/** Promises 8 to 12: discount, offer, accept, vote, settle. */
final class OffersAndVotesTest {
    private static final int[] NO_NUMBERS = {Integer.MIN_VALUE, -1, 1, 12, 40, Integer.MAX_VALUE};

    public static void main(String[] args) {
        discountIsSet();
        discountRefuses();
        offersAreNumbered();
        offerRefuses();
        acceptMakesANewClaim();
        acceptKeepsPledgeRankAndHiding();
        acceptRoundsDownAndAddsArrears();
        acceptTakesTheStatesOwn();
        acceptRefuses();
        acceptNeedsRoom();
        votesCount();
        votesEndWithTheClaim();
        voteRefuses();
        settleSwapsSeriesThatPass();
        settleSwapsByThreeQuarters();
        settleSwapsAllIfPooled();
        settleSwapsNothing();
        settleEndsTheVotesOfThatOffer();
        settleSwapsOnlyOpenBonds();
        settleRefuses();
        settleNeedsRoom();
        Check.end("OffersAndVotesTest");
    }

    private static int plain(Claimclub state, int kind, int principal) {
        return state.claim(kind, 1, principal, 0, 9, 0, Check.NONE, false);
    }

    private static int bond(Claimclub state, int lender, int principal, int series) {
        return state.claim(Claimclub.BOND, lender, principal, 0, 9, 0, series, false);
    }

    // ---- promise 8

    private static void discountIsSet() {
        Claimclub state = new Claimclub();
        Check.same("at first", 800, state.discount(0));
        Check.same("the least", 0, state.discount(1500));
        Check.same("the most", 1500, state.discount(1));
        Check.same("any", 1, state.discount(800));
        plain(state, 0, 10000);
        plain(state, 2, 10000);
        state.discount(0);
        int offer = state.offer(10, 0, 9);
        state.accept(0, offer);
        Check.same("by no discount", 1000, state.effort(0));
        state.discount(1500);
        state.accept(1, state.offer(0, 0, 10));
        // Rounded down year by year 10000 in 9 years is 2840, in 10 years 2469; by 2840 that is 8693.
        Check.same("by the highest", 1307, state.effort(2));
    }

    private static void discountRefuses() {
        Claimclub state = new Claimclub();
        state.discount(700);
        Check.refusedAt("rate", Check.BAD_ARGUMENT, state, wrong -> state.discount(wrong),
            Integer.MIN_VALUE, -1, 1501, Integer.MAX_VALUE);
        Check.same("as it was", 700, state.discount(0));
    }

    // ---- promise 9

    private static void offersAreNumbered() {
        Claimclub state = new Claimclub();
        Check.same("the least", 0, state.offer(0, 0, 1));
        Check.same("the most", 1, state.offer(99, 1000, 30));
        for (int number = 2; number < 12; number++) {
            Check.same("number", number, state.offer(5, 100, 3));
        }
        Check.refused("a 13th", Check.BAD_STATE, state, () -> state.offer(5, 100, 3));
        Check.refused("arguments come first", Check.BAD_ARGUMENT, state, () -> state.offer(100, 100, 3));
    }

    private static void offerRefuses() {
        Claimclub state = new Claimclub();
        plain(state, 0, 100);
        state.offer(0, 0, 1);
        Check.refusedAt("cut", Check.BAD_ARGUMENT, state, wrong -> state.offer(wrong, 0, 1),
            Integer.MIN_VALUE, -1, 100, Integer.MAX_VALUE);
        Check.refusedAt("coupon", Check.BAD_ARGUMENT, state, wrong -> state.offer(0, wrong, 1),
            Integer.MIN_VALUE, -1, 1001, Integer.MAX_VALUE);
        Check.refusedAt("years", Check.BAD_ARGUMENT, state, wrong -> state.offer(0, 0, wrong),
            Integer.MIN_VALUE, -1, 0, 31, Integer.MAX_VALUE);
        Check.same("the next number is as it was", 1, state.offer(0, 0, 1));
    }

    // ---- promise 10

    private static void acceptMakesANewClaim() {
        Claimclub state = new Claimclub();
        state.claim(2, 3, 2000, 1000, 5, 1, -1, false);
        state.year(1);
        state.sue(0);
        int offer = state.offer(25, 400, 7);
        state.year(1);
        Check.same("the new claim", 1, state.accept(0, offer));
        // 100, then 105 and 200 a year later: 410 and 2000 are owed with 200 a year, paid nothing.
        long[] old = {Claimclub.SWAPPED, 2000, 410, 5, 0, 0, 2, Claimclub.NONE};
        long[] fresh = {Claimclub.OPEN, 1807, 0, 9, 0, 0, 0, 0};
        for (int what = 0; what < old.length; what++) {
            Check.same("the old one, " + what, old[what], state.ofClaim(0, what));
            Check.same("the new one, " + what, fresh[what], state.ofClaim(1, what));
        }
        Check.same("the debt is the new one's", 1807, state.ofState(3));
        Check.same("the new coupon", 1807 + 7 * 72, state.value(1, 0));
        Check.same("the old one is worth nothing", 0, state.value(0, 0));
        state.economy(0, 0, 100000);
        Check.same("only the new one is paid", 72, state.year(1));
        Check.same("the old one stays as it was", 410, state.ofClaim(0, 2));
        Check.same("a swapped one, swapped again", 2, state.accept(1, offer));
        Check.same("from that one", 1, state.ofClaim(2, 7));
        state.assure(3, true);
        state.programme(10, -200, 1);
        Check.same("the kind and the lender stay", 0, state.review());
        state.assure(3, false);
        state.programme(10, -200, 1);
        Check.same("the kind and the lender stay, without assurance", 3, state.review());
    }

    private static void acceptKeepsPledgeRankAndHiding() {
        Claimclub state = new Claimclub();
        state.claim(3, 3, 1000, 0, 5, 2, -1, true);
        state.claim(3, 3, 1000, 0, 5, 0, -1, false);
        state.economy(0, 0, 300);
        state.pledge(0, 300);
        int offer = state.offer(0, 1000, 5);
        Check.same("the new claim", 2, state.accept(0, offer));
        Check.same("the pledge went over", 300, state.ofClaim(2, 5));
        Check.same("the old one has none", 0, state.ofClaim(0, 5));
        Check.same("hidden as it was", 1000, state.ofState(3));
        state.accept(1, offer);
        state.economy(0, 0, 150);
        state.pledge(3, 10);
        Check.same("paid by ranks", 200, state.year(1));
        Check.same("the pledge pays the new one", 200, state.ofClaim(2, 5));
        Check.same("the purse is for rank 0 first", 50, state.ofState(1));
        Check.same("revealed", 2000, state.reveal(2));
    }

    private static void acceptRoundsDownAndAddsArrears() {
        Claimclub state = new Claimclub();
        plain(state, 0, 1001);
        state.accept(0, state.offer(33, 0, 9));
        Check.same("1001 by 67 percent", 670, state.ofClaim(1, 1));
        plain(state, 0, 1);
        state.accept(2, state.offer(1, 0, 9));
        Check.same("0 as well", 0, state.ofClaim(3, 1));
        Check.same("open", Claimclub.OPEN, state.ofClaim(3, 0));
        state.claim(0, 1, 1000000, 1000, 1, 0, -1, false);
        state.year(2);
        state.accept(4, state.offer(0, 0, 30));
        Check.same("above 1000000 as well, from arrears alone", 1155000, state.ofClaim(5, 1));
        Check.same("due from now on", 32, state.ofClaim(5, 3));
        state.year(1);
        Check.same("an old one has arrears no more", 1155000 + 670, state.ofState(3));
    }

    private static void acceptTakesTheStatesOwn() {
        Claimclub state = new Claimclub();
        state.claim(0, 0, 1000, 0, 5, 0, -1, false);
        Check.same("the state's own", 1, state.accept(0, state.offer(50, 1000, 2)));
        Check.same("its principal", 500, state.ofClaim(1, 1));
        state.economy(0, 0, 1000);
        Check.same("it is the state's own yet", 0, state.year(2));
        Check.same("paid as it is due", Claimclub.PAID, state.ofClaim(1, 0));
        // It was worth 678, the new one 517.
        Check.same("its effort counts", 10000 - 7625, state.effort(0));
    }

    private static void acceptRefuses() {
        Claimclub state = new Claimclub();
        plain(state, 0, 100);
        Check.refused("without offers", Check.BAD_INDEX, state, () -> state.accept(0, 0));
        int offer = state.offer(0, 0, 1);
        Check.refusedAt("claim", Check.BAD_INDEX, state, wrong -> state.accept(wrong, offer), NO_NUMBERS);
        Check.refusedAt("offer", Check.BAD_INDEX, state, wrong -> state.accept(0, wrong), NO_NUMBERS);
        int bond = bond(state, 1, 100, 0);
        Check.refused("a bond", Check.BAD_STATE, state, () -> state.accept(bond, offer));
        Check.refused("the index comes first", Check.BAD_INDEX, state, () -> state.accept(bond, 1));
        state.accept(0, offer);
        Check.refused("a swapped one", Check.BAD_STATE, state, () -> state.accept(0, offer));
        state.economy(0, 0, 100);
        state.year(1);
        Check.refused("a paid one", Check.BAD_STATE, state, () -> state.accept(2, offer));
    }

    private static void acceptNeedsRoom() {
        Claimclub state = new Claimclub();
        for (int number = 0; number < 39; number++) {
            plain(state, 0, 100);
        }
        int offer = state.offer(0, 0, 1);
        Check.same("the last one", 39, state.accept(38, offer));
        Check.refused("no room", Check.BAD_STATE, state, () -> state.accept(37, offer));
        Check.refused("the index comes first", Check.BAD_INDEX, state, () -> state.accept(37, 1));
    }

    // ---- promise 11

    private static void votesCount() {
        Claimclub state = new Claimclub();
        int claim = bond(state, 1, 100, 2);
        int offer = state.offer(0, 0, 1);
        int other = state.offer(0, 0, 1);
        Check.same("without votes", false, state.passes(offer, 2));
        state.vote(claim, offer, false);
        Check.same("a no", false, state.passes(offer, 2));
        state.vote(claim, offer, true);
        Check.same("told anew, a yes", true, state.passes(offer, 2));
        Check.same("of that offer alone", false, state.passes(other, 2));
        state.vote(claim, offer, true);
        Check.same("a yes twice is one", true, state.passes(offer, 2));
        state.vote(claim, other, true);
        state.vote(claim, offer, false);
        Check.same("told anew, a no", false, state.passes(offer, 2));
        Check.same("the other as it was", true, state.passes(other, 2));
        int hidden = state.claim(1, 7, 100, 0, 9, 0, 3, true);
        state.vote(hidden, offer, true);
        Check.same("hidden ones vote too", true, state.passes(offer, 3));
    }

    private static void votesEndWithTheClaim() {
        Claimclub state = new Claimclub();
        int ending = state.claim(1, 1, 900, 0, 1, 0, 0, false);
        int lasting = bond(state, 2, 100, 0);
        int offer = state.offer(0, 0, 1);
        state.vote(ending, offer, true);
        Check.same("with that one", true, state.passes(offer, 0));
        state.economy(0, 0, 900);
        state.year(1);
        Check.same("a paid one has no vote", false, state.passes(offer, 0));
        state.vote(lasting, offer, true);
        Check.same("and is not counted", true, state.passes(offer, 0));
    }

    private static void voteRefuses() {
        Claimclub state = new Claimclub();
        bond(state, 1, 100, 0);
        Check.refused("without offers", Check.BAD_INDEX, state, () -> state.vote(0, 0, true));
        int offer = state.offer(0, 0, 1);
        Check.refusedAt("claim", Check.BAD_INDEX, state, wrong -> state.vote(wrong, offer, true), NO_NUMBERS);
        Check.refusedAt("offer", Check.BAD_INDEX, state, wrong -> state.vote(0, wrong, true), NO_NUMBERS);
        for (int kind : new int[] {0, 2, 3, 4}) {
            int other = plain(state, kind, 100);
            Check.refused("no bond", Check.BAD_STATE, state, () -> state.vote(other, offer, true));
            Check.refused("the index comes first", Check.BAD_INDEX, state, () -> state.vote(other, 1, true));
        }
        int own = bond(state, 0, 100, 0);
        Check.refused("the state's own", Check.BAD_STATE, state, () -> state.vote(own, offer, true));
        int ending = state.claim(1, 1, 5, 0, 1, 0, 0, false);
        state.economy(0, 0, 5);
        state.year(1);
        Check.refused("a paid one", Check.BAD_STATE, state, () -> state.vote(ending, offer, true));
        state.vote(0, offer, true);
        state.settle(offer);
        Check.refused("a swapped one", Check.BAD_STATE, state, () -> state.vote(0, offer, true));
        Check.refused("a swapped one, a no", Check.BAD_STATE, state, () -> state.vote(0, offer, false));
    }

    // ---- promise 12

    private static void settleSwapsSeriesThatPass() {
        Claimclub state = new Claimclub();
        bond(state, 1, 1000, 1);
        bond(state, 0, 500, 1);
        bond(state, 2, 9000, 2);
        state.claim(1, 3, 200, 1000, 9, 0, 1, true);
        plain(state, 0, 100);
        int offer = state.offer(40, 100, 3);
        state.year(1);
        state.vote(0, offer, true);
        // Of 1000 and 220 (200 and its coupon) 1000 say yes.
        Check.same("three of the series 1", 3, state.settle(offer));
        int[] from = {0, 1, 3};
        long[] principals = {600, 300, 132};
        for (int i = 0; i < from.length; i++) {
            Check.same("the old one", Claimclub.SWAPPED, state.ofClaim(from[i], 0));
            Check.same("the new one", Claimclub.OPEN, state.ofClaim(5 + i, 0));
            Check.same("by numbers", from[i], state.ofClaim(5 + i, 7));
            Check.same("its principal", principals[i], state.ofClaim(5 + i, 1));
            Check.same("its year", 4, state.ofClaim(5 + i, 3));
        }
        Check.same("not another series", Claimclub.OPEN, state.ofClaim(2, 0));
        Check.same("no other kind", Claimclub.OPEN, state.ofClaim(4, 0));
        Check.same("8 claims", 8, Seen.claims(state));
        Check.same("hidden as it was", 9000 + 100 + 600, state.ofState(3));
        state.vote(5, offer, true);
        Check.same("the yes of the new one, in its series", true, state.passes(offer, 1));
        Check.same("the new ones may be swapped again", 3, state.settle(offer));
        Check.same("from the new one", 5, state.ofClaim(8, 7));
    }

    private static void settleSwapsByThreeQuarters() {
        Claimclub state = new Claimclub();
        bond(state, 1, 74, 1);
        bond(state, 2, 1, 1);
        bond(state, 3, 25, 1);
        bond(state, 4, 1000, 2);
        int offer = state.offer(0, 0, 3);
        state.vote(0, offer, true);
        Check.same("74 of 100", 0, state.settle(offer));
        state.vote(0, offer, true);
        state.vote(1, offer, true);
        Check.same("75 of 100", 3, state.settle(offer));
    }

    private static void settleSwapsAllIfPooled() {
        Claimclub state = new Claimclub();
        bond(state, 1, 600, 0);
        bond(state, 2, 100, 1);
        bond(state, 3, 100, 1);
        bond(state, 0, 50, 3);
        int offer = state.offer(0, 0, 3);
        state.vote(0, offer, true);
        state.vote(1, offer, true);
        Check.same("series 1 does not pass", false, state.passes(offer, 1));
        Check.same("series 3 does not pass", false, state.passes(offer, 3));
        Check.same("all are pooled", true, state.passes(offer, -1));
        Check.same("all, the state's own in a series of its own too", 4, state.settle(offer));
        Check.same("by numbers", 3, state.ofClaim(7, 7));
    }

    private static void settleSwapsNothing() {
        Claimclub state = new Claimclub();
        bond(state, 1, 600, 0);
        bond(state, 0, 600, 1);
        plain(state, 0, 100);
        int offer = state.offer(0, 0, 3);
        Check.same("without votes", 0, state.settle(offer));
        state.vote(0, offer, false);
        Check.same("with a no", 0, state.settle(offer));
        Check.same("no new claims", 3, Seen.claims(state));
        Check.same("not the state's own alone", Claimclub.OPEN, state.ofClaim(1, 0));
    }

    private static void settleEndsTheVotesOfThatOffer() {
        Claimclub state = new Claimclub();
        bond(state, 1, 700, 0);
        bond(state, 2, 300, 0);
        int offer = state.offer(0, 0, 3);
        int other = state.offer(0, 0, 3);
        state.vote(0, offer, true);
        state.vote(0, other, true);
        Check.same("70 percent are too few for the series", false, state.passes(offer, 0));
        Check.same("70 percent are enough to pool", true, state.passes(offer, -1));
        bond(state, 3, 1000, 1);
        Check.same("nothing passes now", 0, state.settle(offer));
        state.vote(1, offer, true);
        Check.same("the first yes is over", false, state.passes(offer, 0));
        state.vote(1, other, true);
        Check.same("the other offer keeps its own", true, state.passes(other, 0));
        Check.same("by the other offer", 2, state.settle(other));
        Check.same("an offer may be voted again", false, state.passes(offer, 0));
        state.vote(3, offer, true);
        state.vote(4, offer, true);
        Check.same("voted again", 2, state.settle(offer));
    }

    private static void settleSwapsOnlyOpenBonds() {
        Claimclub state = new Claimclub();
        state.claim(1, 1, 100, 0, 1, 0, 0, false);
        bond(state, 2, 300, 0);
        state.economy(0, 0, 100);
        state.year(1);
        int offer = state.offer(0, 0, 3);
        state.vote(1, offer, true);
        Check.same("only the open one", 1, state.settle(offer));
        Check.same("the paid one stays paid", Claimclub.PAID, state.ofClaim(0, 0));
    }

    private static void settleRefuses() {
        Claimclub state = new Claimclub();
        bond(state, 1, 100, 0);
        Check.refused("without offers", Check.BAD_INDEX, state, () -> state.settle(0));
        int offer = state.offer(0, 0, 3);
        state.vote(0, offer, true);
        Check.refusedAt("offer", Check.BAD_INDEX, state, wrong -> state.settle(wrong), NO_NUMBERS);
        Check.same("the vote stands", true, state.passes(offer, 0));
    }

    private static void settleNeedsRoom() {
        Claimclub state = new Claimclub();
        for (int number = 0; number < 20; number++) {
            bond(state, 1, 100, number < 15 ? 0 : 1);
        }
        for (int number = 20; number < 26; number++) {
            plain(state, 0, 100);
        }
        int offer = state.offer(0, 0, 3);
        for (int number = 0; number < 15; number++) {
            state.vote(number, offer, true);
        }
        Check.refused("15 more would be 41", Check.BAD_STATE, state, () -> state.settle(offer));
        Check.same("the votes stand", true, state.passes(offer, 0));
        Claimclub fitting = new Claimclub();
        for (int number = 0; number < 20; number++) {
            bond(fitting, 1, 100, 0);
        }
        fitting.offer(0, 0, 3);
        for (int number = 0; number < 15; number++) {
            fitting.vote(number, 0, true);
        }
        Check.same("40 are not more than 40", 20, fitting.settle(0));
        Check.same("full, and nothing to swap", 0, fitting.settle(0));
        Check.same("40", 40, Seen.claims(fitting));
    }
}
