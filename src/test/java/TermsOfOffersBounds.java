import java.util.function.Supplier;

/** The terms of the document on values, offers and votes, sentence by sentence, at their bounds. */
final class TermsOfOffersBounds {
    private static final Class<? extends RuntimeException> BAD_STATE = Check.BAD_STATE;

    private TermsOfOffersBounds() {
    }

    static void tell(Sentences all) {
        tellOfValues(all);
        tellOfSwaps(all);
        tellOfEfforts(all);
        tellOfVotes(all);
    }

    // ---- values

    private static void tellOfValues(Sentences all) {
        all.test("Terms", "from the last one of its flows to the next one, beginning with 0",
            TermsOfOffersBounds::valueByFlows);
        all.test("Terms", "(0 in years without one)", TermsOfOffersBounds::valueInYearsWithoutAFlow);
        all.test("Terms", "times 10000, divided by 10000 and the rate", TermsOfOffersBounds::valueByTheRate);
        all.test("Terms", "and the arrears, added at last", TermsOfOffersBounds::valueWithArrears);
        all.test("Terms", "It is 0, if it is not OPEN", TermsOfOffersBounds::noValueIfNotOpen);
    }

    private static void valueByFlows() {
        Claimclub state = new Claimclub();
        Bounds.claim(state, 0, 1, 10000, 1000, 1);
        // 11000 by 1.08.
        Check.same("one flow", 10185, state.value(0, 800));
        Bounds.claim(state, 0, 1, 10000, 1000, 2);
        // 10185 and 1000, 11185 by 1.08.
        Check.same("two flows", 10356, state.value(1, 800));
        Bounds.claim(state, 0, 1, 1000000, 1000, 30);
        Check.same("30 flows, all of them", 1000000 + 30 * 100000, state.value(2, 0));
        long worth = 0;
        for (int year = 30; year >= 1; year--) {
            worth = (worth + 100000 + (year == 30 ? 1000000 : 0)) * 10000 / 11500;
        }
        Check.same("30 flows at the highest rate", worth, state.value(2, 1500));
    }

    private static void valueInYearsWithoutAFlow() {
        Claimclub state = new Claimclub();
        Bounds.claim(state, 0, 1, 10000, 0, 3);
        // 9259, 8573, 7937.
        Check.same("two years without one", 7937, state.value(0, 800));
        Bounds.claim(state, 0, 1, 9, 1000, 2);
        // 8, 7: a coupon below 1 is none.
        Check.same("a coupon of 0", 7, state.value(1, 800));
        state.accept(1, state.offer(99, 1000, 30));
        Check.same("no flows at all", 0, state.value(2, 0));
    }

    private static void valueByTheRate() {
        int[][] ratesWorths = {{0, 1000}, {1, 999}, {9, 999}, {10, 999}, {11, 998}, {800, 925}, {1500, 869}};
        for (int[] due : ratesWorths) {
            Claimclub state = new Claimclub();
            Bounds.claim(state, 0, 1, 1000, 0, 1);
            Check.same("1000 at " + due[0], due[1], state.value(0, due[0]));
        }
    }

    private static void valueWithArrears() {
        Claimclub state = new Claimclub();
        Bounds.claim(state, 0, 1, 1000, 1000, 2);
        state.year(1);
        // 1100 by 1.15, and 100 as they are.
        Check.same("at the highest rate", 956 + 100, state.value(0, 1500));
        state.year(1);
        Check.same("arrears alone in the year in which it is due", 1205, state.value(0, 1500));
        state.year(1);
        Check.same("arrears alone after it", 1265, state.value(0, 1500));
    }

    private static void noValueIfNotOpen() {
        Claimclub state = new Claimclub();
        Bounds.paid(state, 0);
        Bounds.claim(state, 0, 1, 1000, 1000, 9);
        state.year(1);
        state.accept(1, state.offer(0, 0, 9));
        Check.same("a paid one", 0, state.value(0, 0));
        Check.same("a swapped one, with principal and arrears told", 0, state.value(1, 0));
        Check.same("its new one", 1100, state.value(2, 0));
        Claimclub own = new Claimclub();
        Bounds.claim(own, 0, 0, 1000, 0, 1);
        Check.same("the state's own", 1000, own.value(0, 0));
        own.year(1);
        Check.same("the state's own, paid, with its principal told", 0, own.value(0, 0));
    }

    // ---- offers, swaps

    private static void tellOfSwaps(Sentences all) {
        all.test("Terms", "offers are numbered from 0, at most 12", TermsOfOffersBounds::offersAreNumbered);
        all.test("Terms", "what is owed of it, times 100 less the cut, divided by 100",
            TermsOfOffersBounds::principalsByCuts);
        all.test("Terms", "(0 as well, or above 1000000", TermsOfOffersBounds::principalsOfZeroOrAboveAMillion);
        all.test("Terms", "it is OPEN till it is due all the same", TermsOfOffersBounds::openTillItIsDue);
        all.test("Terms", "the coupon of the offer, due so many years from now on",
            TermsOfOffersBounds::couponAndYears);
        all.test("Terms", "no arrears, no suit", TermsOfOffersBounds::noArrearsNoSuit);
        all.test("Terms", "and the same rank, pledge, kind, lender and series", TermsOfOffersBounds::whatStaysTheSame);
        all.test("Terms", "hidden or not", TermsOfOffersBounds::hiddenOrNot);
        all.test("Terms", "To swap a claim is to make it SWAPPED", TermsOfOffersBounds::swapped);
        all.test("Terms", "a new one, OPEN, with the next number", TermsOfOffersBounds::newOneWithTheNextNumber);
        all.test("Terms", "the pledge goes over to that", TermsOfOffersBounds::pledgeGoesOver);
        all.test("Terms", "what else the old one had stays told", TermsOfOffersBounds::theRestStaysTold);
    }

    private static void offersAreNumbered() {
        Claimclub state = new Claimclub();
        for (int number = 0; number < 12; number++) {
            Check.same("the next number", number, state.offer(0, 0, 1));
        }
        Bounds.refused("one more", BAD_STATE, Bounds.made(made -> Bounds.offers(made, 12)),
            made -> made.offer(0, 0, 1));
    }

    private static void principalsByCuts() {
        int[][] owedCutPrincipal = {
            {1, 0, 1}, {1, 1, 0}, {1, 99, 0}, {99, 99, 0}, {100, 99, 1}, {199, 99, 1}, {200, 99, 2}, {100, 1, 99},
            {101, 1, 99}, {1000000, 0, 1000000}, {1000000, 99, 10000}, {999999, 99, 9999}, {3, 50, 1}
        };
        for (int[] due : owedCutPrincipal) {
            Claimclub state = new Claimclub();
            Bounds.claim(state, 0, 1, due[0], 0, 9);
            state.accept(0, state.offer(due[1], 0, 1));
            Check.same(due[0] + " with a cut of " + due[1], due[2], state.ofClaim(1, 1));
        }
        Claimclub both = new Claimclub();
        Bounds.claim(both, 0, 1, 1000, 1000, 9);
        both.year(1);
        both.accept(0, both.offer(50, 0, 1));
        Check.same("of principal and arrears together", 550, both.ofClaim(1, 1));
    }

    private static void principalsOfZeroOrAboveAMillion() {
        Claimclub state = new Claimclub();
        Bounds.claim(state, 0, 1, 1000000, 1000, 9);
        Bounds.claim(state, 0, 1, 1, 0, 9);
        state.year(1);
        int offer = state.offer(0, 1000, 9);
        Check.same("above 1000000", 1100000, state.ofClaim(state.accept(0, offer), 1));
        Check.same("0", 0, state.ofClaim(state.accept(1, state.offer(1, 1000, 9)), 1));
        Check.same("0 again", 0, state.ofClaim(state.accept(3, offer), 1));
        state.economy(0, 0, 10000000);
        Check.same("what is paid of both", 110000, state.year(1));
    }

    private static void openTillItIsDue() {
        for (int years : new int[] {1, 2, 30}) {
            Claimclub state = new Claimclub();
            Bounds.claim(state, 0, 1, 1, 0, 9);
            state.accept(0, state.offer(99, 1000, years));
            for (int year = 1; year < years; year++) {
                state.year(1);
            }
            Check.same("the year before, of " + years, Claimclub.OPEN, state.ofClaim(1, 0));
            state.year(1);
            Check.same("in that year, of " + years, Claimclub.PAID, state.ofClaim(1, 0));
            Check.same("nothing was paid to it", 0, state.ofClaim(1, 4));
        }
    }

    private static void couponAndYears() {
        Claimclub state = new Claimclub();
        state.year(3);
        Bounds.claim(state, 0, 1, 1000, 1000, 9);
        state.offer(0, 200, 2);
        state.year(4);
        long owed = state.ofState(3);
        state.accept(0, 0);
        Check.same("from the swap on, not from the offer", 9, state.ofClaim(1, 3));
        state.year(1);
        Check.same("that coupon, by what was owed", owed * 200 / 10000, state.ofClaim(1, 2));
        Claimclub late = new Claimclub();
        Bounds.claim(late, 0, 1, 1000, 0, 9);
        for (int tens = 0; tens < 6; tens++) {
            late.year(10);
        }
        late.accept(0, late.offer(0, 0, 30));
        Check.same("above the last year", 90, late.ofClaim(1, 3));
    }

    private static void noArrearsNoSuit() {
        Claimclub state = new Claimclub();
        Bounds.judge(state);
        Bounds.claim(state, 0, 1, 1000, 1000, 9);
        state.year(1);
        state.sue(1);
        Bounds.offers(state, 1);
        state.accept(0, 0);
        state.accept(1, 0);
        Check.same("of a judged one: arrears", 0, state.ofClaim(2, 2));
        Check.same("of a judged one: suit", 0, state.ofClaim(2, 6));
        Check.same("of one that sued: arrears", 0, state.ofClaim(3, 2));
        Check.same("of one that sued: suit", 0, state.ofClaim(3, 6));
        state.year(1);
        Check.same("nor is it judged later", 0, state.ofClaim(3, 6));
    }

    private static void whatStaysTheSame() {
        for (int kind : new int[] {Claimclub.CLUB, Claimclub.BANK, Claimclub.SUPPLIER, Claimclub.FUND}) {
            Claimclub state = new Claimclub();
            state.claim(kind, 1, 100, 0, 9, 2, -1, false);
            state.claim(0, 1, 100, 0, 1, 1, -1, false);
            state.economy(0, 0, 150);
            state.pledge(0, 7);
            state.accept(0, state.offer(0, 0, 1));
            Check.same("the pledge", 7, state.ofClaim(2, 5));
            state.moratorium(kind, true);
            state.moratorium(0, false);
            state.year(1);
            Check.same("the rank: the other one is paid first", 100, state.ofClaim(1, 4));
            Check.same("the kind: only the pledge in a moratorium", kind == 0 ? 50 : 7, state.ofClaim(2, 4));
        }
        lenderAndSeriesStayTheSame();
    }

    private static void lenderAndSeriesStayTheSame() {
        for (int lender = 0; lender <= 7; lender++) {
            Claimclub state = new Claimclub();
            Bounds.claim(state, 0, lender, 100, 0, 9);
            state.accept(0, state.offer(0, 0, 9));
            state.programme(1, 0, 1);
            Check.same("its debt", lender == 0 ? 0 : 100, state.ofState(3));
            for (int other = 0; other <= 7; other++) {
                state.assure(other, other != lender);
            }
            Check.same("without the lender " + lender, 3, state.review());
            state.assure(lender, true);
            Check.same("with the lender " + lender, 0, state.review());
        }
        for (int series = 0; series <= 3; series++) {
            Claimclub state = new Claimclub();
            Bounds.bond(state, 1, 100, series);
            Bounds.offers(state, 1);
            state.vote(0, 0, true);
            state.settle(0);
            state.vote(1, 0, true);
            for (int asked = 0; asked <= 3; asked++) {
                Check.same("the series " + series + " asked as " + asked, series == asked, state.passes(0, asked));
            }
        }
    }

    private static void hiddenOrNot() {
        Claimclub state = new Claimclub();
        Bounds.hidden(state, 0, 1, 10);
        Bounds.claim(state, 0, 1, 7, 0, 9);
        Bounds.hidden(state, 0, 1, 5);
        Bounds.offers(state, 1);
        state.reveal(2);
        for (int claim = 0; claim < 3; claim++) {
            state.accept(claim, 0);
        }
        Check.same("one that was never hidden, and one revealed", 12, state.ofState(3));
        Check.same("the hidden one is revealed by itself", 22, state.reveal(3));
        Check.same("the old one is hidden yet", 22, state.reveal(0));
        Supplier<Claimclub> open = Bounds.made(made -> {
            Bounds.claim(made, 0, 1, 7, 0, 9);
            made.accept(0, made.offer(0, 0, 9));
        });
        Bounds.refused("the new one is not hidden", BAD_STATE, open, made -> made.reveal(1));
    }

    private static void swapped() {
        Claimclub state = new Claimclub();
        Bounds.suppliers(state, 2);
        Bounds.offers(state, 1);
        state.accept(0, 0);
        Check.same("the swapped one", Claimclub.SWAPPED, state.ofClaim(0, 0));
        Check.same("not another one", Claimclub.OPEN, state.ofClaim(1, 0));
        Check.same("it is no debt any more", 20, state.ofState(3));
    }

    private static void newOneWithTheNextNumber() {
        Claimclub state = new Claimclub();
        Bounds.suppliers(state, 5);
        Bounds.offers(state, 1);
        Check.same("the next number", 5, state.accept(2, 0));
        Check.same("open", Claimclub.OPEN, state.ofClaim(5, 0));
        Check.same("the number behind it", 6, Bounds.claim(state, 0, 1, 10, 0, 9));
    }

    private static void pledgeGoesOver() {
        for (int aside : new int[] {0, 1, 1000000}) {
            Claimclub state = new Claimclub();
            Bounds.claim(state, 0, 1, 10, 0, 1);
            state.economy(0, 0, 1000000);
            if (aside > 0) {
                state.pledge(0, aside);
            }
            state.accept(0, state.offer(99, 0, 1));
            Check.same("the old one's", 0, state.ofClaim(0, 5));
            Check.same("the new one's", aside, state.ofClaim(1, 5));
            Check.same("the purse's", 1000000 - aside, state.ofState(1));
            state.year(1);
            Check.same("it comes to the purse when the new one is due", 1000000, state.ofState(1));
        }
    }

    private static void theRestStaysTold() {
        Claimclub state = new Claimclub();
        Bounds.judge(state);
        state.economy(0, 0, 55);
        state.year(1);
        Bounds.tells("before", state, 0, Claimclub.OPEN, 1000, 260, 9, 55, 0, 2, Claimclub.NONE);
        state.accept(0, state.offer(40, 700, 9));
        Bounds.tells("then", state, 0, Claimclub.SWAPPED, 1000, 260, 9, 55, 0, 2, Claimclub.NONE);
        Check.same("what was paid, anew", 55, state.paidAnew(0));
        Check.same("to the new one nothing was", 0, state.paidAnew(1));
        state.accept(1, state.offer(0, 0, 9));
        state.year(10);
        Bounds.tells("years later", state, 0, Claimclub.SWAPPED, 1000, 260, 9, 55, 0, 2, Claimclub.NONE);
        Bounds.tells("the second one", state, 1, Claimclub.SWAPPED, 756, 0, 12, 0, 0, 0, 0);
    }

    // ---- the discount, efforts, gaps

    private static void tellOfEfforts(Sentences all) {
        all.test("Terms", "The discount is a rate, 800 at first", TermsOfOffersBounds::theDiscountAtFirst);
        all.test("Terms", "the state's own with them", TermsOfOffersBounds::effortWithTheStatesOwn);
        all.test("Terms", "were worth at the discount as they were swapped", TermsOfOffersBounds::effortAtTheDiscount);
        all.test("Terms", "right then, is added up", TermsOfOffersBounds::effortIsAddedUp);
        all.test("Terms", "10000 less 10000 times the latter, divided by the former",
            TermsOfOffersBounds::effortOfBoth);
        all.test("Terms", "0, if the former is 0", TermsOfOffersBounds::effortIfTheFormerIsZero);
        all.test("Terms", "Its gap is the effort of the CLUB less its own", TermsOfOffersBounds::gap);
        all.test("Terms", "if no kind besides the CLUB", TermsOfOffersBounds::alikeBesidesTheClub);
        all.test("Terms", "of which a claim was swapped", TermsOfOffersBounds::alikeIfNoneWasSwapped);
        all.test("Terms", "has a gap above 200", TermsOfOffersBounds::gapAboveTwoHundred);
    }

    private static void theDiscountAtFirst() {
        Check.same("told", 800, new Claimclub().discount(800));
        Claimclub state = new Claimclub();
        Bounds.claim(state, 0, 1, 10000, 0, 1);
        state.accept(0, state.offer(0, 0, 2));
        // 9259 before, 8573 then: 85730000 by 9259 is 9259.
        Check.same("an effort by it", 741, state.effort(0));
    }

    private static int swap(Claimclub state, int kind, int lender, int principal, int cut) {
        int claim = Bounds.claim(state, kind, lender, principal, 0, 9);
        return state.accept(claim, state.offer(cut, 0, 9));
    }

    private static void effortWithTheStatesOwn() {
        Claimclub state = new Claimclub();
        state.discount(0);
        swap(state, 2, 0, 100, 50);
        Check.same("of the state's own alone", 5000, state.effort(2));
        swap(state, 2, 1, 300, 10);
        // 50 and 270 of 400.
        Check.same("with another lender's", 2000, state.effort(2));
    }

    private static void effortAtTheDiscount() {
        Claimclub state = new Claimclub();
        state.discount(1500);
        Bounds.claim(state, 0, 1, 11500, 0, 1);
        state.offer(0, 0, 1);
        state.offer(0, 0, 2);
        state.accept(0, 0);
        Check.same("as much as before", 0, state.effort(0));
        state.accept(1, 1);
        // 10000 each, then 10000 and 8695: 18695 of 20000.
        Check.same("a year later", 10000 - 9347, state.effort(0));
        state.discount(0);
        Check.same("another discount later on", 653, state.effort(0));
    }

    private static void effortIsAddedUp() {
        Claimclub state = new Claimclub();
        state.discount(0);
        int fresh = swap(state, 3, 1, 1000, 10);
        Check.same("one", 1000, state.effort(3));
        swap(state, 3, 1, 3000, 30);
        Check.same("900 and 2100 of 4000", 2500, state.effort(3));
        state.accept(fresh, state.offer(50, 0, 9));
        // 900 to 450.
        Check.same("900, 2100 and 450 of 4900", 10000 - 7040, state.effort(3));
        state.economy(0, 0, 1000000);
        state.year(10);
        Check.same("as they were right then", 2960, state.effort(3));
        Check.same("of no other kind", 0, state.effort(4));
        Claimclub arrears = new Claimclub();
        arrears.discount(0);
        Bounds.claim(arrears, 0, 1, 1000, 1000, 1);
        arrears.year(1);
        arrears.accept(0, arrears.offer(50, 0, 9));
        Check.same("with arrears", 5000, arrears.effort(0));
    }

    private static void effortOfBoth() {
        int[][] principalCutEffort = {
            {100, 0, 0}, {100, 99, 9900}, {100, 1, 100}, {1, 1, 10000}, {3, 1, 3334}, {7, 1, 1429}
        };
        for (int[] due : principalCutEffort) {
            Claimclub state = new Claimclub();
            state.discount(0);
            swap(state, 0, 1, due[0], due[1]);
            Check.same(due[0] + " with a cut of " + due[1], due[2], state.effort(0));
        }
        Claimclub more = new Claimclub();
        more.discount(0);
        Bounds.claim(more, 0, 1, 1000000, 0, 9);
        more.accept(0, more.offer(0, 1000, 30));
        Check.same("four times as much", -30000, more.effort(0));
    }

    private static void effortIfTheFormerIsZero() {
        Claimclub state = new Claimclub();
        Check.same("nothing was swapped", 0, state.effort(2));
        state.discount(1500);
        Bounds.claim(state, 2, 1, 1, 0, 30);
        Check.same("worth nothing", 0, state.value(0, 1500));
        state.accept(0, state.offer(0, 1000, 30));
        Check.same("nor then", 0, state.effort(2));
        Bounds.claim(state, 3, 1, 200, 0, 30);
        Check.same("worth nothing, though 200 are owed", 0, state.value(2, 1500));
        state.accept(2, state.offer(0, 0, 1));
        Check.same("173 then", 173, state.value(3, 1500));
        Check.same("the former is 0, the latter is not", 0, state.effort(3));
        Bounds.claim(state, 3, 1, 2, 0, 1);
        state.accept(4, state.offer(0, 0, 1));
        // 1 before, 1 and 173 then.
        Check.same("the former is 1", 10000 - 1740000, state.effort(3));
    }

    private static void gap() {
        Claimclub state = new Claimclub();
        state.discount(0);
        swap(state, 2, 1, 10000, 0);
        Check.same("an effort of the club of 0", true, state.areAlike());
        swap(state, 0, 1, 10000, 3);
        Check.same("the club's is more by 300", false, state.areAlike());
        swap(state, 2, 1, 10000, 99);
        Check.same("the club's is less", true, state.areAlike());
    }

    private static void alikeBesidesTheClub() {
        Claimclub state = new Claimclub();
        Check.same("nothing was swapped", true, state.areAlike());
        state.discount(0);
        swap(state, 0, 1, 10000, 99);
        Check.same("the club's alone", true, state.areAlike());
        for (int kind : new int[] {Claimclub.BANK, Claimclub.SUPPLIER, Claimclub.FUND}) {
            Claimclub two = new Claimclub();
            two.discount(0);
            swap(two, 0, 1, 10000, 99);
            swap(two, kind, 1, 10000, 0);
            Check.same("the kind " + kind, false, two.areAlike());
        }
        Claimclub bonds = new Claimclub();
        bonds.discount(0);
        swap(bonds, 0, 1, 10000, 99);
        Bounds.bond(bonds, 1, 100, 0);
        bonds.offer(0, 0, 9);
        bonds.vote(2, 1, true);
        Check.same("no bond was swapped yet", true, bonds.areAlike());
        bonds.settle(1);
        Check.same("the bonds", false, bonds.areAlike());
    }

    private static void alikeIfNoneWasSwapped() {
        Claimclub state = new Claimclub();
        for (int kind = Claimclub.BANK; kind <= Claimclub.FUND; kind++) {
            Bounds.claim(state, kind, 1, 10000, 0, 9);
        }
        state.discount(0);
        swap(state, 0, 1, 10000, 99);
        Check.same("claims that were not swapped", true, state.areAlike());
        state.discount(1500);
        Bounds.claim(state, 2, 1, 1, 0, 30);
        state.accept(5, 0);
        Check.same("one that was worth nothing, with an effort of 0", false, state.areAlike());
    }

    private static void gapAboveTwoHundred() {
        int[][] clubsCutsOthers = {{2, 0, 1}, {3, 1, 1}, {3, 0, 0}, {99, 97, 1}, {99, 96, 0}, {0, 99, 1}};
        for (int[] due : clubsCutsOthers) {
            Claimclub state = new Claimclub();
            state.discount(0);
            swap(state, 0, 1, 10000, due[0]);
            swap(state, 2, 1, 10000, due[1]);
            Check.same("cuts of " + due[0] + " and " + due[1], due[2] == 1, state.areAlike());
        }
        Claimclub fine = new Claimclub();
        fine.discount(0);
        swap(fine, 2, 1, 10000, 0);
        swap(fine, 0, 1, 9999, 2);
        // 9799 of 9999 is 9799.97 of 10000, that is 9799.
        Check.same("an effort of 201", 201, fine.effort(0));
        Check.same("a gap of 201", false, fine.areAlike());
        swap(fine, 0, 1, 1, 0);
        // 9800 of 10000.
        Check.same("an effort of 200", 200, fine.effort(0));
        Check.same("a gap of 200", true, fine.areAlike());
    }

    // ---- votes

    private static void tellOfVotes(Sentences all) {
        all.test("Terms", "The votes of an offer are of OPEN claims that are BONDs",
            TermsOfOffersBounds::votesOfOpenBonds);
        all.test("Terms", "a vote may be told anew", TermsOfOffersBounds::votesToldAnew);
        all.test("Terms", "A series passes, if what is owed of such bonds in it is above 0",
            TermsOfOffersBounds::owedAboveZero);
        all.test("Terms", "at least 75 times that", TermsOfOffersBounds::seventyFiveOfHundred);
        all.test("Terms", "All series are pooled, if what is owed of all such bonds is above 0",
            TermsOfOffersBounds::pooledAboveZero);
        all.test("Terms", "at least 66 times that", TermsOfOffersBounds::sixtySixOfHundred);
        all.test("Terms", "in each series in which it is above 0, at least 50 times",
            TermsOfOffersBounds::fiftyOfHundred);
        all.test("Terms", "the BONDs that are OPEN as that begins", TermsOfOffersBounds::openAsThatBegins);
        all.test("Terms", "also the state's own, of each series that passes",
            TermsOfOffersBounds::eachSeriesThatPasses);
        all.test("Terms", "or of all series, if they are pooled", TermsOfOffersBounds::allSeriesIfPooled);
        all.test("Terms", "are swapped, by numbers", TermsOfOffersBounds::swappedByNumbers);
        all.test("Terms", "all votes of that offer are over then", TermsOfOffersBounds::votesAreOver);
    }

    private static void votesOfOpenBonds() {
        Claimclub state = new Claimclub();
        state.claim(1, 1, 100, 0, 1, 0, 0, false);
        Bounds.bond(state, 2, 100, 0);
        Bounds.bond(state, 0, 1000, 0);
        Bounds.claim(state, 0, 1, 1000, 0, 9);
        Bounds.offers(state, 1);
        state.vote(0, 0, true);
        Check.same("a half of the two", false, state.passes(0, 0));
        state.vote(1, 0, true);
        Check.same("all of the two", true, state.passes(0, 0));
        state.vote(0, 0, false);
        state.economy(0, 0, 100);
        state.year(1);
        Check.same("a no of one that is paid is none", true, state.passes(0, 0));
        Claimclub yes = new Claimclub();
        yes.claim(1, 1, 100, 0, 1, 0, 0, false);
        Bounds.bond(yes, 2, 10, 0);
        Bounds.offers(yes, 1);
        yes.vote(0, 0, true);
        Check.same("a yes", true, yes.passes(0, 0));
        yes.economy(0, 0, 100);
        yes.year(1);
        Check.same("a yes of one that is paid is none", false, yes.passes(0, 0));
    }

    private static void votesToldAnew() {
        Claimclub state = new Claimclub();
        Bounds.bonds(state, 2, 10, 0);
        Bounds.offers(state, 1);
        state.vote(1, 0, true);
        boolean[] told = {true, true, false, false, true};
        for (boolean isYes : told) {
            state.vote(0, 0, isYes);
            Check.same("the last one counts", isYes, state.passes(0, 0));
        }
    }

    /** Two bonds in a series, of so much each, the first with a yes. */
    private static Claimclub withYesAndNo(int yes, int no, int series) {
        Claimclub state = new Claimclub();
        state.vote(Bounds.bond(state, 1, yes, series), state.offer(0, 0, 9), true);
        state.vote(Bounds.bond(state, 2, no, series), 0, false);
        return state;
    }

    private static void owedAboveZero() {
        Claimclub state = new Claimclub();
        Bounds.offers(state, 1);
        Check.same("no claims", false, state.passes(0, 0));
        Bounds.bond(state, 0, 1000, 0);
        Check.same("the state's own alone", false, state.passes(0, 0));
        Claimclub least = new Claimclub();
        least.vote(Bounds.bond(least, 1, 1, 0), least.offer(99, 0, 9), true);
        Check.same("1 is owed", true, least.passes(0, 0));
        Check.same("it is swapped", 1, least.settle(0));
        least.vote(1, 0, true);
        Check.same("nothing is owed of the new one, with a yes", false, least.passes(0, 0));
        Check.same("and it is not swapped", 0, least.settle(0));
    }

    private static void seventyFiveOfHundred() {
        int[][] yesNoPasses = {
            {3, 1, 1}, {74, 26, 0}, {75, 25, 1}, {76, 24, 1}, {299, 101, 0}, {300, 100, 1}, {301, 101, 0}
        };
        for (int series = 0; series <= 3; series++) {
            for (int[] due : yesNoPasses) {
                Claimclub state = withYesAndNo(due[0], due[1], series);
                Check.same(due[0] + " to " + due[1], due[2] == 1, state.passes(0, series));
                Bounds.bond(state, 3, 1000000, (series + 1) % 4);
                Check.same("settled, " + due[0] + " to " + due[1], due[2] == 1 ? 2 : 0, state.settle(0));
            }
        }
        Claimclub large = new Claimclub();
        Bounds.bonds(large, 40, 1000000, 3);
        Bounds.offers(large, 1);
        for (int claim = 0; claim < 29; claim++) {
            large.vote(claim, 0, true);
        }
        Check.same("29000000 of 40000000", false, large.passes(0, 3));
        large.vote(39, 0, true);
        Check.same("30000000 of 40000000", true, large.passes(0, 3));
        Claimclub arrears = withYesAndNo(100, 34, 0);
        Check.same("100 of 134", false, arrears.passes(0, 0));
        Bounds.claim(arrears, 1, 3, 10, 1000, 1);
        arrears.vote(2, 0, true);
        Check.same("110 of 144", true, arrears.passes(0, 0));
        arrears.vote(2, 0, false);
        arrears.year(1);
        Check.same("100 of 145, of arrears alone", false, arrears.passes(0, 0));
    }

    private static void pooledAboveZero() {
        Claimclub state = new Claimclub();
        Bounds.offers(state, 1);
        Check.same("no claims", false, state.passes(0, Claimclub.NONE));
        Bounds.bond(state, 0, 1000, 0);
        Bounds.claim(state, 0, 1, 1000, 0, 9);
        Check.same("no bonds of others", false, state.passes(0, Claimclub.NONE));
        state.vote(Bounds.bond(state, 1, 1, 2), 0, true);
        Check.same("1 is owed", true, state.passes(0, Claimclub.NONE));
        Check.same("all are swapped, the state's own too", 2, state.settle(0));
    }

    private static void sixtySixOfHundred() {
        int[][] yesNoPooled = {
            {33, 17, 1}, {65, 35, 0}, {66, 34, 1}, {67, 33, 1}, {660, 341, 0}, {659, 340, 0}, {2, 1, 1}
        };
        for (int[] due : yesNoPooled) {
            Claimclub state = withYesAndNo(due[0], due[1], 1);
            Check.same(due[0] + " to " + due[1], due[2] == 1, state.passes(0, Claimclub.NONE));
        }
        Claimclub large = new Claimclub();
        Bounds.offers(large, 1);
        for (int claim = 0; claim < 40; claim++) {
            Bounds.bond(large, 1, 1000000, claim % 4);
        }
        for (int claim = 0; claim < 26; claim++) {
            large.vote(claim, 0, true);
        }
        Check.same("26000000 of 40000000", false, large.passes(0, Claimclub.NONE));
        large.vote(39, 0, true);
        Check.same("27000000 of 40000000", true, large.passes(0, Claimclub.NONE));
    }

    private static void fiftyOfHundred() {
        for (int series = 0; series <= 3; series++) {
            int[][] yesNoPooled = {
                {1, 1, 1}, {49, 51, 0}, {50, 50, 1}, {51, 49, 1}, {99, 100, 0}, {100, 99, 1}, {0, 1, 0}
            };
            for (int[] due : yesNoPooled) {
                Claimclub state = new Claimclub();
                state.vote(Bounds.bond(state, 1, 1000, (series + 1) % 4), state.offer(0, 0, 9), true);
                if (due[0] > 0) {
                    state.vote(Bounds.bond(state, 2, due[0], series), 0, true);
                }
                Bounds.bond(state, 3, due[1], series);
                Check.same("in the series " + series + " " + due[0] + " to " + due[1], due[2] == 1,
                    state.passes(0, Claimclub.NONE));
            }
        }
        Claimclub none = new Claimclub();
        none.vote(Bounds.bond(none, 1, 1000, 0), none.offer(0, 0, 9), true);
        Bounds.bond(none, 0, 1000, 1);
        Check.same("in another series nothing is owed but the state's own", true, none.passes(0, Claimclub.NONE));
        Bounds.bond(none, 1, 1, 1);
        Check.same("in another series 1 is owed", false, none.passes(0, Claimclub.NONE));
    }

    private static void openAsThatBegins() {
        Claimclub state = new Claimclub();
        Bounds.claim(state, 1, 3, 5, 0, 1);
        state.economy(0, 0, 5);
        state.year(1);
        Bounds.bonds(state, 2, 10, 0);
        Bounds.claim(state, 0, 1, 10, 0, 9);
        Bounds.offers(state, 1);
        state.vote(1, 0, true);
        state.vote(2, 0, true);
        Check.same("neither the paid one, nor the club's, nor the new ones", 2, state.settle(0));
        Check.same("the paid one", Claimclub.PAID, state.ofClaim(0, 0));
        Check.same("the club's", Claimclub.OPEN, state.ofClaim(3, 0));
        Check.same("the first new one", Claimclub.OPEN, state.ofClaim(4, 0));
        Check.same("the second new one", Claimclub.OPEN, state.ofClaim(5, 0));
    }

    private static void eachSeriesThatPasses() {
        for (int passing = 0; passing < 16; passing++) {
            Claimclub state = new Claimclub();
            Bounds.offers(state, 1);
            int due = 0;
            for (int series = 0; series <= 3; series++) {
                int claim = Bounds.bond(state, 1, 100, series);
                Bounds.bond(state, 0, 100, series);
                boolean isPassing = (passing >> series & 1) == 1;
                state.vote(claim, 0, isPassing);
                due += isPassing ? 2 : 0;
            }
            Check.same("how many of " + passing, due, state.settle(0));
            for (int series = 0; series <= 3; series++) {
                int is = (passing >> series & 1) == 1 ? Claimclub.SWAPPED : Claimclub.OPEN;
                Check.same("of the series " + series, is, state.ofClaim(2 * series, 0));
                Check.same("the state's own of the series " + series, is, state.ofClaim(2 * series + 1, 0));
            }
        }
    }

    private static void allSeriesIfPooled() {
        Claimclub state = new Claimclub();
        state.vote(Bounds.bond(state, 1, 660, 0), state.offer(0, 0, 9), true);
        Bounds.bond(state, 1, 340, 0);
        Bounds.bond(state, 0, 50, 1);
        for (int series = 0; series <= 3; series++) {
            Check.same("no series passes", false, state.passes(0, series));
        }
        Check.same("they are pooled", true, state.passes(0, Claimclub.NONE));
        Check.same("all of them", 3, state.settle(0));
        Claimclub less = new Claimclub();
        less.vote(Bounds.bond(less, 1, 659, 0), less.offer(0, 0, 9), true);
        Bounds.bond(less, 1, 341, 0);
        Check.same("1 less", 0, less.settle(0));
    }

    private static void swappedByNumbers() {
        Claimclub state = new Claimclub();
        Bounds.offers(state, 1);
        int[] series = {3, 1, 2, 3, 0, 1};
        for (int of : series) {
            state.vote(Bounds.bond(state, 1, 10, of), 0, of != 2);
        }
        Check.same("all but one", 5, state.settle(0));
        int[] origins = {0, 1, 3, 4, 5};
        for (int i = 0; i < origins.length; i++) {
            Check.same("the origin of " + (6 + i), origins[i], state.ofClaim(6 + i, 7));
        }
    }

    private static void votesAreOver() {
        Claimclub state = new Claimclub();
        Bounds.bonds(state, 1, 100, 0);
        Bounds.bonds(state, 1, 50, 1);
        Bounds.offers(state, 2);
        state.vote(0, 0, true);
        state.vote(1, 1, true);
        Check.same("the first series", 1, state.settle(0));
        Check.same("the votes of the other offer go on", true, state.passes(1, 1));
        Check.same("the new one has no vote", false, state.passes(0, 0));
        Claimclub none = withYesAndNo(1, 1, 0);
        Check.same("nothing is swapped", 0, none.settle(0));
        none.vote(1, 0, true);
        Check.same("the yes of before is over all the same", false, none.passes(0, 0));
        none.vote(0, 0, true);
        Check.same("it may be told again", true, none.passes(0, 0));
    }
}
