import java.util.function.Supplier;

/** The terms of the document on suits, the programme and the debt, sentence by sentence, at their bounds. */
final class TermsOfSuitsBounds {
    private static final Class<? extends RuntimeException> BAD_STATE = Check.BAD_STATE;

    private TermsOfSuitsBounds() {
    }

    static void tell(Sentences all) {
        tellOfSuits(all);
        tellOfReviews(all);
        tellOfDebt(all);
    }

    // ---- suits

    private static void tellOfSuits(Sentences all) {
        all.test("Terms", "Who has arrears may sue", TermsOfSuitsBounds::whoHasArrears);
        all.test("Terms", "the suit is judged as the next year comes", TermsOfSuitsBounds::judgedAsTheNextYearComes);
        all.test("Terms", "if the claim is OPEN yet", TermsOfSuitsBounds::judgedIfOpenYet);
        all.test("Terms", "A judged claim may seize things of the state", TermsOfSuitsBounds::judgedOnesSeize);
        all.test("Terms", "numbered from 0, at most 10", TermsOfSuitsBounds::thingsAreNumbered);
        all.test("Terms", "for its arrears, then for its principal", TermsOfSuitsBounds::arrearsThenPrincipal);
        all.test("Terms", "what is left goes into the purse", TermsOfSuitsBounds::whatIsLeft);
        all.test("Terms", "When nothing is owed of it then, it is PAID", TermsOfSuitsBounds::nothingIsOwedThen);
        all.test("Terms", "and what lies aside for it comes to the purse", TermsOfSuitsBounds::whatLiesAside);
    }

    private static void whoHasArrears() {
        for (int left = 0; left <= 2; left++) {
            int money = 100 - left;
            Supplier<Claimclub> made = Bounds.made(state -> {
                Bounds.claim(state, 0, 1, 1000, 1000, 9);
                state.economy(0, 0, money);
                state.year(1);
            });
            Check.same("arrears", left, made.get().ofClaim(0, 2));
            if (left == 0) {
                Bounds.refused("no arrears", BAD_STATE, made, state -> state.sue(0));
            } else {
                Bounds.taken("arrears of " + left, made, state -> state.sue(0));
            }
        }
    }

    private static void judgedAsTheNextYearComes() {
        Claimclub state = new Claimclub();
        Bounds.claim(state, 0, 1, 1000, 1000, 9);
        state.year(1);
        state.sue(0);
        Check.same("in that year", 1, state.ofClaim(0, 6));
        state.year(1);
        Check.same("in the next one", 2, state.ofClaim(0, 6));
        Claimclub many = new Claimclub();
        Bounds.claim(many, 0, 1, 1000, 1000, 9);
        many.year(1);
        many.sue(0);
        many.year(10);
        Check.same("in ten years at once", 2, many.ofClaim(0, 6));
        Claimclub last = new Claimclub();
        Bounds.claim(last, 0, 1, 1000, 1000, 9);
        for (int tens = 0; tens < 6; tens++) {
            last.year(10);
        }
        last.sue(0);
        Check.same("in the last year it is not judged any more", 1, last.ofClaim(0, 6));
    }

    private static void judgedIfOpenYet() {
        Claimclub state = new Claimclub();
        Bounds.claim(state, 0, 1, 1000, 1000, 9);
        state.year(1);
        state.sue(0);
        state.accept(0, state.offer(0, 0, 9));
        state.year(1);
        Check.same("a swapped one", 1, state.ofClaim(0, 6));
        Check.same("its new one", 0, state.ofClaim(1, 6));
        Claimclub bonds = new Claimclub();
        Bounds.claim(bonds, 1, 1, 1000, 1000, 9);
        bonds.year(1);
        bonds.sue(0);
        bonds.vote(0, bonds.offer(0, 0, 9), true);
        bonds.settle(0);
        bonds.year(1);
        Check.same("a bond that was swapped by a settling", 1, bonds.ofClaim(0, 6));
    }

    private static void judgedOnesSeize() {
        for (int kind = Claimclub.CLUB; kind <= Claimclub.FUND; kind++) {
            Claimclub state = new Claimclub();
            Bounds.claim(state, kind, 1, 1000, 1000, 9);
            state.year(1);
            state.sue(0);
            state.year(1);
            state.moratorium(kind, true);
            for (int thing = 0; thing < 10; thing++) {
                Check.same("of the kind " + kind + ", in a moratorium", 10, state.seize(0, state.thing(10)));
            }
        }
        Bounds.refused("one that only sued", BAD_STATE, Bounds.made(state -> {
            Bounds.claim(state, 0, 1, 1000, 1000, 9);
            state.year(1);
            state.sue(0);
            state.thing(10);
        }), state -> state.seize(0, 0));
    }

    private static void thingsAreNumbered() {
        Claimclub state = new Claimclub();
        for (int number = 0; number < 10; number++) {
            Check.same("the next number", number, state.thing(1000000));
        }
        Bounds.refused("one more", BAD_STATE, Bounds.made(made -> Bounds.things(made, 10, 1)), made -> made.thing(1));
    }

    private static void arrearsThenPrincipal() {
        // Arrears of 205, a principal of 1000.
        int[][] worthArrearsPrincipal = {
            {1, 204, 1000}, {204, 1, 1000}, {205, 0, 1000}, {206, 0, 999}, {1204, 0, 1}, {1205, 0, 0}, {1206, 0, 0}
        };
        for (int[] due : worthArrearsPrincipal) {
            Claimclub state = new Claimclub();
            Bounds.judge(state);
            state.seize(0, state.thing(due[0]));
            Check.same("the arrears, by " + due[0], due[1], state.ofClaim(0, 2));
            Check.same("the principal, by " + due[0], due[2], state.ofClaim(0, 1));
        }
    }

    private static void whatIsLeft() {
        int[][] worthPurse = {{1, 0}, {1204, 0}, {1205, 0}, {1206, 1}, {1000000, 998795}};
        for (int[] due : worthPurse) {
            Claimclub state = new Claimclub();
            Bounds.judge(state);
            state.seize(0, state.thing(due[0]));
            Check.same("the purse, by " + due[0], due[1], state.ofState(1));
        }
        Claimclub below = new Claimclub();
        below.economy(0, -1, 0);
        Bounds.judge(below);
        below.seize(0, below.thing(1205 + 300));
        Check.same("a purse below 0", -1700, below.ofState(1));
    }

    private static void nothingIsOwedThen() {
        int[][] worthIs = {{1204, Claimclub.OPEN}, {1205, Claimclub.PAID}, {1206, Claimclub.PAID}};
        for (int[] due : worthIs) {
            Claimclub state = new Claimclub();
            Bounds.judge(state);
            state.seize(0, state.thing(due[0]));
            Check.same("by " + due[0], due[1], state.ofClaim(0, 0));
            Check.same("the debt, by " + due[0], Math.max(0, 1205 - due[0]), state.ofState(3));
        }
        Claimclub two = new Claimclub();
        Bounds.judge(two);
        two.seize(0, two.thing(1204));
        Check.same("open by the first thing", Claimclub.OPEN, two.ofClaim(0, 0));
        two.seize(0, two.thing(1));
        Check.same("paid by the second one", Claimclub.PAID, two.ofClaim(0, 0));
        Check.same("no flows come of it", 0, two.year(10));
    }

    private static void whatLiesAside() {
        int[][] worthAsidePurse = {{1204, 60, 40}, {1205, 0, 100}, {1206, 0, 101}};
        for (int[] due : worthAsidePurse) {
            Claimclub state = new Claimclub();
            Bounds.judge(state);
            state.economy(0, 0, 100);
            state.pledge(0, 60);
            state.seize(0, state.thing(due[0]));
            Check.same("what lies aside, by " + due[0], due[1], state.ofClaim(0, 5));
            Check.same("the purse, by " + due[0], due[2], state.ofState(1));
        }
    }

    // ---- the programme

    private static void tellOfReviews(Sentences all) {
        all.test("Terms", "A programme has an amount, a target, and some reviews", TermsOfSuitsBounds::programmeHas);
        all.test("Terms", "A review fails by the first of these that is so", TermsOfSuitsBounds::theFirstThatIsSo);
        all.test("Terms", "1 the balance is below the target", TermsOfSuitsBounds::balanceBelowTheTarget);
        all.test("Terms", "2 the FUND has arrears", TermsOfSuitsBounds::fundHasArrears);
        all.test("Terms", "times 2, is less than that of all such claims", TermsOfSuitsBounds::lessThanAHalfAssured);
        all.test("Terms", "OPEN claims that are CLUB or BANK, are not hidden", TermsOfSuitsBounds::suchClaims);
        all.test("Terms", "(the state's own are such as well)", TermsOfSuitsBounds::theStatesOwnAreSuch);
        all.test("Terms", "the purse gets the amount, and a claim is made", TermsOfSuitsBounds::whatAReviewBrings);
        all.test("Terms",
            "of the lender 7, with the amount as a principal, a coupon of 300, due in 5 years, of the rank 0",
            TermsOfSuitsBounds::theClaimOfAReview);
    }

    private static void programmeHas() {
        Claimclub state = new Claimclub();
        Check.same("no programme at first", 0, state.ofState(4));
        state.programme(70, 3, 2);
        Check.same("reviews", 2, state.ofState(4));
        Check.same("a target", 1, state.review());
        state.economy(0, 3, 0);
        state.review();
        Check.same("an amount", 70, state.ofState(1));
    }

    private static void theFirstThatIsSo() {
        for (int reasons = 0; reasons < 8; reasons++) {
            Claimclub state = new Claimclub();
            Bounds.claim(state, Claimclub.FUND, 6, 1000, 1000, 9);
            Bounds.claim(state, Claimclub.CLUB, 1, 1000, 0, 9);
            boolean isBelow = (reasons & 1) == 1;
            boolean hasArrears = (reasons & 2) == 2;
            boolean isAssured = (reasons & 4) == 0;
            state.economy(0, 0, hasArrears ? 99 : 100);
            state.year(1);
            state.programme(1, isBelow ? 1 : 0, 1);
            state.assure(1, isAssured);
            int due = isBelow ? 1 : hasArrears ? 2 : isAssured ? 0 : 3;
            Check.same("reasons " + reasons, due, state.review());
        }
    }

    private static void balanceBelowTheTarget() {
        int[][] balanceTargetReview = {
            {0, 0, 0}, {-1, 0, 1}, {0, 1, 1}, {1, 0, 0}, {-200, -200, 0}, {-200, -199, 1}, {200, 200, 0}, {199, 200, 1},
            {-200, 200, 1}, {200, -200, 0}, {0, -1, 0}
        };
        for (int[] due : balanceTargetReview) {
            Claimclub state = new Claimclub();
            state.economy(0, due[0], 0);
            state.programme(1, due[1], 1);
            Check.same("a balance of " + due[0] + ", a target of " + due[1], due[2], state.review());
        }
    }

    private static void fundHasArrears() {
        int[][] moneyReview = {{0, 2}, {99, 2}, {100, 0}, {101, 0}};
        for (int[] due : moneyReview) {
            Claimclub state = new Claimclub();
            Bounds.claim(state, Claimclub.FUND, 3, 1000, 1000, 9);
            state.programme(1, 0, 1);
            state.economy(0, 0, due[0]);
            state.year(1);
            Check.same("with " + due[0] + " of 100 paid", due[1], state.review());
        }
        for (int kind = Claimclub.CLUB; kind <= Claimclub.FUND; kind++) {
            Claimclub state = new Claimclub();
            Bounds.claim(state, kind, 3, 1000, 1000, 9);
            state.programme(1, 0, 1);
            state.assure(3, true);
            state.year(1);
            Check.same("arrears of the kind " + kind, kind == Claimclub.FUND ? 2 : 0, state.review());
        }
        Claimclub last = new Claimclub();
        Bounds.suppliers(last, 38);
        Bounds.claim(last, Claimclub.FUND, 3, 1000, 1000, 9);
        last.programme(1, 0, 1);
        last.year(1);
        Check.same("arrears of the last claim", 2, last.review());
        Claimclub hidden = new Claimclub();
        hidden.claim(Claimclub.FUND, 3, 1000, 1000, 9, 2, -1, true);
        hidden.programme(1, 0, 1);
        hidden.year(1);
        Check.same("arrears of a hidden claim", 2, hidden.review());
        hidden.accept(0, hidden.offer(0, 0, 9));
        Check.same("those that a swapped one tells yet", 100, hidden.ofClaim(0, 2));
        Check.same("are none that the fund has", 0, hidden.review());
    }

    private static void lessThanAHalfAssured() {
        int[][] assuredOthersReview = {
            {1, 1, 0}, {1, 2, 3}, {2, 1, 0}, {499, 500, 3}, {500, 500, 0}, {500, 499, 0}, {1000000, 1000000, 0},
            {999999, 1000000, 3}
        };
        for (int[] due : assuredOthersReview) {
            Claimclub state = new Claimclub();
            Bounds.claim(state, Claimclub.CLUB, 1, due[0], 0, 9);
            Bounds.claim(state, Claimclub.BANK, 2, due[1], 0, 9);
            state.programme(1, 0, 1);
            state.assure(1, true);
            Check.same(due[0] + " with, " + due[1] + " without assurance", due[2], state.review());
        }
        Claimclub none = new Claimclub();
        none.programme(1, 0, 2);
        Check.same("no such claims", 0, none.review());
        Bounds.claim(none, Claimclub.CLUB, 1, 1, 0, 9);
        Check.same("1 without assurance", 3, none.review());
        Claimclub arrears = new Claimclub();
        Bounds.claim(arrears, Claimclub.CLUB, 1, 1000, 1000, 9);
        Bounds.claim(arrears, Claimclub.BANK, 2, 1100, 0, 9);
        arrears.assure(1, true);
        arrears.programme(1, 0, 1);
        Check.same("1000 with, 1100 without", 3, arrears.review());
        arrears.year(1);
        Check.same("1000 and arrears of 100 with, 1100 without", 0, arrears.review());
    }

    private static void suchClaims() {
        for (int kind = Claimclub.CLUB; kind <= Claimclub.FUND; kind++) {
            Claimclub state = new Claimclub();
            Bounds.claim(state, kind, 1, 1000, 0, 9);
            state.programme(1, 0, 1);
            boolean isSuch = kind == Claimclub.CLUB || kind == Claimclub.BANK;
            Check.same("the kind " + kind, isSuch ? 3 : 0, state.review());
            Claimclub assured = new Claimclub();
            Bounds.claim(assured, Claimclub.CLUB, 1, 1000, 0, 9);
            Bounds.claim(assured, kind, 2, 1000, 0, 9);
            assured.programme(1, 0, 1);
            assured.assure(2, true);
            Check.same("assurance for the kind " + kind, isSuch ? 0 : 3, assured.review());
        }
        Claimclub over = new Claimclub();
        Bounds.paid(over, Claimclub.BANK);
        Bounds.hidden(over, Claimclub.BANK, 1, 1000);
        Bounds.claim(over, Claimclub.CLUB, 1, 1000, 0, 1);
        over.programme(1, 0, 9);
        Check.same("one that is open and not hidden", 3, over.review());
        over.accept(2, over.offer(99, 0, 1));
        Check.same("its new one", 3, over.review());
        over.economy(0, 0, 10);
        over.year(1);
        Check.same("that is paid: neither paid, swapped nor hidden ones", 0, over.review());
        over.reveal(1);
        Check.same("the hidden one, revealed", 3, over.review());
    }

    private static void theStatesOwnAreSuch() {
        Claimclub state = new Claimclub();
        Bounds.claim(state, Claimclub.BANK, 0, 1000, 0, 9);
        state.programme(1, 0, 9);
        Check.same("without its assurance", 3, state.review());
        state.assure(0, true);
        Check.same("with its assurance", 0, state.review());
        Bounds.claim(state, Claimclub.CLUB, 1, 1000, 0, 9);
        Check.same("a half", 0, state.review());
        Bounds.claim(state, Claimclub.CLUB, 1, 1, 0, 9);
        Check.same("less than a half", 3, state.review());
    }

    private static void whatAReviewBrings() {
        for (int amount : new int[] {1, 1000000}) {
            Claimclub state = new Claimclub();
            state.economy(0, 1, 0);
            state.programme(amount, 2, 1);
            Check.same("it fails", 1, state.review());
            Check.same("no money", 0, state.ofState(1));
            Check.same("no claim", 0, Seen.claims(state));
            state.economy(0, 2, 0);
            Check.same("it does not fail", 0, state.review());
            Check.same("the money", amount, state.ofState(1));
            Check.same("the claim", 1, Seen.claims(state));
            Check.same("the debt", amount, state.ofState(3));
        }
    }

    private static void theClaimOfAReview() {
        Claimclub state = new Claimclub();
        state.year(4);
        state.claim(Claimclub.SUPPLIER, 1, 1000, 1000, 9, 1, -1, false);
        state.programme(10000, 0, 1);
        state.review();
        Bounds.tells("the claim", state, 1, Claimclub.OPEN, 10000, 0, 9, 0, 0, 0, Claimclub.NONE);
        Check.same("its coupon", 10000 + 5 * 300, state.value(1, 0));
        state.economy(0, -10, 300);
        Check.same("of the rank 0: ahead of the one before it", 300, state.year(1));
        Check.same("its coupon is paid", 300, state.ofClaim(1, 4));
        couponsOfAReviewBelowAndAtOne();
        kindAndRankOfAReviewsClaim();
    }

    private static void couponsOfAReviewBelowAndAtOne() {
        int[][] amountFlows = {{33, 0}, {34, 1}, {66, 1}, {67, 2}, {1000000, 30000}};
        for (int[] due : amountFlows) {
            Claimclub state = new Claimclub();
            state.programme(due[0], 0, 1);
            state.review();
            Check.same("the flows of " + due[0], due[0] + 5 * due[1], state.value(0, 0));
        }
    }

    private static void kindAndRankOfAReviewsClaim() {
        Claimclub two = new Claimclub();
        two.programme(1000, 0, 2);
        two.review();
        Bounds.claim(two, Claimclub.SUPPLIER, 1, 1000, 0, 1);
        two.review();
        two.pledge(0, 1000);
        Check.same("what is left for both", 30 + 1000, two.year(1));
        Check.same("of the rank 0: behind the one before it", 0, two.ofClaim(2, 4));
        two.programme(1, 0, 1);
        Check.same("of the kind FUND: its arrears", 2, two.review());
        two.economy(0, 0, 1000);
        two.moratorium(Claimclub.FUND, true);
        Check.same("of the kind FUND: in a moratorium its pledge alone", 30, two.year(1));
    }

    // ---- the debt

    private static void tellOfDebt(Sentences all) {
        all.test("Terms", "The debt is what is owed of all OPEN claims", TermsOfSuitsBounds::debtOfOpenClaims);
        all.test("Terms", "that are not hidden, nor the state's own", TermsOfSuitsBounds::debtOfNoHiddenOnes);
        all.test("Terms", "in each of them first more by itself times the discount",
            TermsOfSuitsBounds::firstMoreByTheDiscount);
        all.test("Terms", "less what the balance brings by the output of then", TermsOfSuitsBounds::lessTheBalance);
        all.test("Terms", "at least 0", TermsOfSuitsBounds::debtAtLeastZero);
        all.test("Terms", "and then the output grown", TermsOfSuitsBounds::thenTheOutputGrown);
        all.test("Terms", "(that of now is not one of them)", TermsOfSuitsBounds::thatOfNowIsNotOne);
        all.test("Terms", "is above 120 times the output as it grew", TermsOfSuitsBounds::above120Times);
        all.test("Terms", "that of the last one, times 1000000, divided by the output then, is at most that of now",
            TermsOfSuitsBounds::atMostThatOfNow);
    }

    private static void debtOfOpenClaims() {
        Claimclub state = new Claimclub();
        Check.same("without claims", 0, state.ofState(3));
        for (int kind = Claimclub.CLUB; kind <= Claimclub.FUND; kind++) {
            Bounds.claim(state, kind, 1, 1000, 1000, 9);
            Check.same("with the kind " + kind, 1000 * (kind + 1), state.ofState(3));
        }
        state.year(1);
        Check.same("with arrears", 5500, state.ofState(3));
        state.economy(0, 0, 10000000);
        state.year(10);
        Check.same("all are paid", 0, state.ofState(3));
        Claimclub swapped = new Claimclub();
        Bounds.claim(swapped, 0, 1, 1000, 0, 9);
        swapped.accept(0, swapped.offer(99, 0, 9));
        Check.same("not of a swapped one", 10, swapped.ofState(3));
    }

    private static void debtOfNoHiddenOnes() {
        Claimclub state = new Claimclub();
        Bounds.hidden(state, 0, 1, 1000);
        Bounds.hidden(state, 0, 0, 100);
        Bounds.claim(state, 0, 0, 10, 0, 9);
        Check.same("neither of them", 0, state.ofState(3));
        Bounds.claim(state, 0, 7, 1, 0, 9);
        Check.same("the last lender's", 1, state.ofState(3));
        Check.same("revealed", 1001, state.reveal(0));
        Check.same("revealed, but the state's own", 1001, state.reveal(1));
    }

    /** A state with that debt, in claims due in 30 years without coupons. */
    private static Claimclub withDebt(int debt) {
        Claimclub state = new Claimclub();
        for (int left = debt; left > 0; left -= 1000000) {
            Bounds.claim(state, 0, 1, Math.min(left, 1000000), 0, 30);
        }
        return state;
    }

    /** Whether it is bearable for so many years at that discount, growth and balance. */
    private static boolean isBearable(int debt, int discount, int growth, int balance, int years) {
        Claimclub state = withDebt(debt);
        state.discount(discount);
        state.economy(growth, balance, 0);
        return state.isBearable(years);
    }

    private static void firstMoreByTheDiscount() {
        // 200000 and a tenth, less 19000: 201000; a tenth of 181000 would leave 199100.
        Check.same("more before less", false, isBearable(200000, 1000, 0, 19, 1));
        Check.same("as much more as less", true, isBearable(200000, 1000, 0, 20, 1));
        Check.same("9 and a tenth", true, isBearable(9, 1000, 0, 0, 30));
        Check.same("10 and a tenth", false, isBearable(10, 1000, 0, 0, 1));
        Check.same("no discount", true, isBearable(1200000, 0, 0, 0, 30));
        Check.same("the highest discount", true, isBearable(20000, 1500, 0, 3, 30));
        Check.same("the highest discount, 7 more", false, isBearable(20007, 1500, 0, 3, 1));
        Check.same("at first 800", true, withDebt(12).isBearable(30));
        Check.same("at first 800, 1 more", false, withDebt(13).isBearable(1));
    }

    private static void lessTheBalance() {
        Check.same("as much more as less", true, isBearable(1000000, 10, 0, 1, 30));
        Check.same("as much more as less, rounded down", true, isBearable(1000999, 10, 0, 1, 30));
        Check.same("more by 1 than less", false, isBearable(1001000, 10, 0, 1, 1));
        Check.same("a balance below 0", false, isBearable(1, 0, 0, -1, 1));
        Check.same("a balance of 0", true, isBearable(1, 0, 0, 0, 1));
        // 1000000 less 100000, by 900000; by the output as it grew it would be 910000.
        Check.same("by the output before it grows", true, isBearable(1000000, 0, -1000, 100, 1));
        Check.same("1 thousandth less", false, isBearable(1000000, 0, -1000, 99, 1));
        // 10000 and 1000, by 1100000.
        Check.same("a balance below 0 by the output before it grows", true, isBearable(10000, 0, 1000, -1, 1));
    }

    private static void debtAtLeastZero() {
        Check.same("no debt", true, isBearable(0, 800, 0, 0, 30));
        Check.same("no debt, and a balance", true, isBearable(0, 1500, 1000, 200, 30));
        Check.same("no debt, and a balance below 0", false, isBearable(0, 0, 0, -1, 1));
        Check.same("less than the balance brings", true, isBearable(1, 1500, 0, 200, 1));
        Check.same("less than the balance brings, for long", true, isBearable(1, 1500, -1000, 200, 30));
        Check.same("just what it brings", true, isBearable(200000, 0, 0, 200, 30));
    }

    private static void thenTheOutputGrown() {
        Check.same("by as much as the debt", true, isBearable(1000000, 100, 100, 0, 30));
        Check.same("by less", false, isBearable(1000000, 101, 100, 0, 1));
        Check.same("by more", true, isBearable(1000000, 99, 100, 0, 30));
        Check.same("the output of now has grown", true, grownBefore().isBearable(1));
    }

    /** The output is 1100000, the debt 1100000: it is bearable, if the balance brings 1100. */
    private static Claimclub grownBefore() {
        Claimclub state = withDebt(1100000);
        state.economy(1000, 0, 0);
        state.year(1);
        state.discount(10);
        state.economy(0, 1, 0);
        return state;
    }

    private static void thatOfNowIsNotOne() {
        // 1250000 less 50000.
        Check.same("125 of 100 now, 120 then", true, isBearable(1250000, 0, 0, 50, 1));
        Check.same("125 of 100 now, more than 120 then", false, isBearable(1250000, 0, 0, 49, 1));
        Check.same("125 of 100 now, less than 120 as the output grew", true, isBearable(1250000, 0, 500, 0, 1));
    }

    private static void above120Times() {
        Check.same("120 of 100", true, isBearable(1200000, 0, 0, 0, 1));
        Check.same("1 above it", false, isBearable(1200001, 0, 0, 0, 1));
        Check.same("1 above it now, 1 above it less 1000 then", true, isBearable(1200001, 0, 0, 1, 1));
        for (int years = 1; years <= 30; years++) {
            // 1250000 less 25000 a year: 1225000, then 1200000 and below.
            Check.same("above it in the first year alone, for " + years, false, isBearable(1250000, 0, 0, 25, years));
        }
        // 1260000 by 1050000 is just 120 of 100.
        Check.same("by the output as it grew", true, isBearable(1260000, 0, 500, 0, 1));
        Check.same("by the output as it grew, 1 above it", false, isBearable(1260001, 0, 500, 0, 1));
        Check.same("in all years", true, isBearable(1260000, 0, 500, 0, 30));
    }

    private static void atMostThatOfNow() {
        Check.same("as much", true, isBearable(10000, 0, 0, 0, 1));
        // 10100 by 1010000, 10101 by 1010000, 10102 by 1010000: 10000, 10000.99 and 10001.98 millionths.
        Check.same("as much, both grown", true, isBearable(10000, 100, 100, 0, 1));
        Check.same("less than a millionth more", true, isBearable(10000, 101, 100, 0, 1));
        Check.same("a millionth more", false, isBearable(10000, 102, 100, 0, 1));
        Check.same("1 by less output", true, isBearable(1, 0, -1000, 0, 6));
        Check.same("1 by less output, a year later", false, isBearable(1, 0, -1000, 0, 7));
        // The debt grows by an eighth, and is less by 25000: so it sinks below 200000, and rises from 200008 on.
        Check.same("that of the last year alone: less", true, isBearable(199999, 1250, 0, 25, 30));
        Check.same("that of the last year alone: as much", true, isBearable(200007, 1250, 0, 25, 30));
        Check.same("that of the last year alone: more", false, isBearable(200008, 1250, 0, 25, 1));
    }
}
