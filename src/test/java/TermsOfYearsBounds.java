/** The terms of the document on years, sentence by sentence, at their bounds. */
final class TermsOfYearsBounds {
    private TermsOfYearsBounds() {
    }

    static void tell(Sentences all) {
        tellOfTheState(all);
        tellOfFlows(all);
        tellOfPayments(all);
        tellOfEnds(all);
    }

    // ---- the purse, the output, suits

    private static void tellOfTheState(Sentences all) {
        all.test("Terms", "a purse, 0 at first, which may be below 0", TermsOfYearsBounds::thePurseMayBeBelowZero);
        all.test("Terms", "an output, 1000000 at first", TermsOfYearsBounds::theOutputAtFirst);
        all.test("Terms", "first the purse gets the output times the balance", TermsOfYearsBounds::firstThePurse);
        all.test("Terms", "then the output is more by itself times its growth", TermsOfYearsBounds::thenTheOutput);
        all.test("Terms", "the next year is there", TermsOfYearsBounds::theNextYearIsThere);
        all.test("Terms", "Then suits of the years before are judged", TermsOfYearsBounds::thenSuitsAreJudged);
    }

    private static void thePurseMayBeBelowZero() {
        Claimclub state = new Claimclub();
        Check.same("at first", 0, state.ofState(1));
        state.economy(0, -1, 1000);
        state.year(1);
        Check.same("0 again", 0, state.ofState(1));
        state.economy(0, -1, 999);
        state.year(1);
        Check.same("below 0 by 1", -1, state.ofState(1));
        state.year(5);
        Check.same("far below 0", -5001, state.ofState(1));
        Check.same("and up again", 0, state.economy(0, 0, 5001));
    }

    private static void theOutputAtFirst() {
        Claimclub state = new Claimclub();
        Check.same("at first", 1000000, state.ofState(2));
        state.economy(1000, 200, 0);
        Check.same("as no year went by", 1000000, state.ofState(2));
    }

    private static void firstThePurse() {
        Claimclub state = new Claimclub();
        state.economy(1000, 200, 0);
        state.year(1);
        Check.same("by the output before it grew", 200000, state.ofState(1));
        state.year(1);
        Check.same("by that before it grew again", 420000, state.ofState(1));
        Claimclub paying = new Claimclub();
        Bounds.claim(paying, 0, 1, 1000, 0, 1);
        paying.economy(0, 1, 0);
        Check.same("claims are paid from what it just got", 1000, paying.year(1));
        Claimclub losing = new Claimclub();
        Bounds.claim(losing, 0, 1, 1000, 0, 1);
        losing.economy(0, -1, 1000);
        Check.same("not from what it just lost", 0, losing.year(1));
    }

    private static void thenTheOutput() {
        int[][] growthsOutputs = {{0, 1000000}, {1, 1000100}, {-1, 999900}, {1000, 1100000}, {-1000, 900000}};
        for (int[] due : growthsOutputs) {
            Claimclub state = new Claimclub();
            state.economy(due[0], 0, 0);
            state.year(1);
            Check.same("with a growth of " + due[0], due[1], state.ofState(2));
        }
        Claimclub twice = new Claimclub();
        twice.economy(1000, 0, 0);
        twice.year(2);
        Check.same("by itself as it grew", 1210000, twice.ofState(2));
    }

    private static void theNextYearIsThere() {
        Claimclub state = new Claimclub();
        Bounds.claim(state, 0, 1, 10, 0, 1);
        Bounds.claim(state, 0, 1, 10, 0, 2);
        state.economy(0, 0, 20);
        Check.same("the one that is due in it is paid", 10, state.year(1));
        Check.same("that of the next one is open", Claimclub.OPEN, state.ofClaim(1, 0));
        Check.same("in it, it is paid", 10, state.year(1));
    }

    private static void thenSuitsAreJudged() {
        Claimclub state = new Claimclub();
        Bounds.claim(state, 0, 1, 1000, 1000, 2);
        Bounds.claim(state, 0, 1, 1000, 1000, 9);
        state.year(1);
        state.sue(0);
        Check.same("it sued", 1, state.ofClaim(0, 6));
        state.economy(0, 0, 1205);
        state.year(1);
        Check.same("all is paid to it in that year", Claimclub.PAID, state.ofClaim(0, 0));
        Check.same("but it was judged before", 2, state.ofClaim(0, 6));
        Check.same("who did not sue is not judged", 0, state.ofClaim(1, 6));
        state.sue(1);
        state.year(1);
        Check.same("a suit of a later year", 2, state.ofClaim(1, 6));
    }

    // ---- what comes to the arrears

    private static void tellOfFlows(Sentences all) {
        all.test("Terms", "by ranks, from 0 on", TermsOfYearsBounds::byRanks);
        all.test("Terms", "then by numbers", TermsOfYearsBounds::byNumbers);
        all.test("Terms", "Then all claims that are OPEN are looked at", TermsOfYearsBounds::onlyOpenOnes);
        all.test("Terms", "their arrears are more by themselves times 500", TermsOfYearsBounds::arrearsGrow);
        all.test("Terms", "and then by their flow of the year", TermsOfYearsBounds::thenTheFlowComes);
        all.test("Terms", "in the year in which it is due the principal is 0 from then on",
            TermsOfYearsBounds::thePrincipalIsInTheArrears);
    }

    private static void byRanks() {
        int[][] ranksInOrder = {{0, 1, 2}, {0, 2, 1}, {1, 0, 2}, {1, 2, 0}, {2, 0, 1}, {2, 1, 0}};
        for (int[] ranks : ranksInOrder) {
            Claimclub state = new Claimclub();
            for (int rank : ranks) {
                state.claim(0, 1, 10, 0, 1, rank, -1, false);
            }
            state.economy(0, 0, 13);
            state.year(1);
            for (int claim = 0; claim < 3; claim++) {
                long due = new long[] {10, 3, 0}[ranks[claim]];
                Check.same("what is paid to the rank " + ranks[claim], due, state.ofClaim(claim, 4));
            }
        }
    }

    private static void byNumbers() {
        Claimclub state = new Claimclub();
        for (int number = 0; number < 40; number++) {
            Bounds.claim(state, number % 5, 1, 10, 0, 1);
        }
        state.economy(0, 0, 395);
        Check.same("all that is there", 395, state.year(1));
        Check.same("the first", 10, state.ofClaim(0, 4));
        Check.same("the last but one", 10, state.ofClaim(38, 4));
        Check.same("the last", 5, state.ofClaim(39, 4));
    }

    private static void onlyOpenOnes() {
        Claimclub state = new Claimclub();
        Bounds.claim(state, 0, 1, 1000, 1000, 9);
        state.year(1);
        state.accept(0, state.offer(0, 0, 9));
        int paid = Bounds.paid(state, 0);
        state.economy(0, 0, 5000);
        Check.same("nothing is paid to the others", 0, state.year(1));
        Check.same("arrears of a swapped one do not grow", 100, state.ofClaim(0, 2));
        Check.same("nor does a paid one get anything", 5, state.ofClaim(paid, 4));
        Claimclub none = new Claimclub();
        none.economy(0, 0, 5);
        Check.same("without claims", 0, none.year(10));
    }

    private static void arrearsGrow() {
        int[][] arrearsThen = {{1, 1}, {19, 19}, {20, 21}, {39, 40}, {40, 42}, {1000000, 1050000}};
        for (int[] due : arrearsThen) {
            Claimclub state = new Claimclub();
            Bounds.claim(state, 0, 1, due[0], 0, 1);
            state.year(1);
            Check.same("the arrears", due[0], state.ofClaim(0, 2));
            state.year(1);
            Check.same("a year later", due[1], state.ofClaim(0, 2));
        }
        Claimclub paying = new Claimclub();
        Bounds.claim(paying, 0, 1, 20, 0, 1);
        paying.year(1);
        paying.economy(0, 0, 100);
        Check.same("they grow before they are paid", 21, paying.year(1));
    }

    private static void thenTheFlowComes() {
        Claimclub state = new Claimclub();
        Bounds.claim(state, 0, 1, 200, 1000, 9);
        state.year(1);
        Check.same("the flow alone", 20, state.ofClaim(0, 2));
        state.year(1);
        // 20 and 1 and 20; with the flow ahead of it, it would be 42.
        Check.same("it does not grow in its own year", 41, state.ofClaim(0, 2));
    }

    private static void thePrincipalIsInTheArrears() {
        Claimclub state = new Claimclub();
        Bounds.claim(state, 0, 1, 1000, 1000, 2);
        state.year(1);
        Check.same("the year before", 1000, state.ofClaim(0, 1));
        state.economy(0, 0, 205);
        Check.same("for the arrears first", 205, state.year(1));
        Check.same("no principal, though nothing of it was paid", 0, state.ofClaim(0, 1));
        Check.same("it is in the arrears", 1000, state.ofClaim(0, 2));
        state.year(1);
        Check.same("where it grows", 1050, state.ofClaim(0, 2));
        Check.same("it stays 0", 0, state.ofClaim(0, 1));
    }

    // ---- what is paid

    private static void tellOfPayments(Sentences all) {
        all.test("Terms", "these are paid, as far as there is something",
            TermsOfYearsBounds::paidAsFarAsThereIsSomething);
        all.test("Terms", "from the pledge first", TermsOfYearsBounds::paidFromThePledgeFirst);
        all.test("Terms", "(in a moratorium, too)", TermsOfYearsBounds::paidFromThePledgeInAMoratorium);
        all.test("Terms", "but for kinds in a moratorium, from the purse",
            TermsOfYearsBounds::notFromThePurseInAMoratorium);
        all.test("Terms", "as far as that is above 0", TermsOfYearsBounds::paidFromAPurseAboveZero);
        all.test("Terms", "what is not paid stays as arrears", TermsOfYearsBounds::theRestStaysAsArrears);
    }

    /** A claim with a flow of 100 in the next year, so much in the purse, and so much aside for it. */
    private static Claimclub withFlowOfHundred(int inPurse, int aside) {
        Claimclub state = new Claimclub();
        Bounds.claim(state, Claimclub.SUPPLIER, 1, 1000, 1000, 9);
        state.economy(0, 0, inPurse + aside);
        if (aside > 0) {
            state.pledge(0, aside);
        }
        return state;
    }

    private static void paidAsFarAsThereIsSomething() {
        int[] sums = {0, 1, 99, 100, 101};
        for (int inPurse : sums) {
            for (int aside : sums) {
                Claimclub state = withFlowOfHundred(inPurse, aside);
                String what = inPurse + " in the purse, " + aside + " aside";
                long due = Math.min(100, inPurse + aside);
                Check.same(what + ", paid", due, state.year(1));
                Check.same(what + ", paid so far", due, state.ofClaim(0, 4));
                Check.same(what + ", the arrears", 100 - due, state.ofClaim(0, 2));
                Check.same(what + ", what is left of both", inPurse + aside - due,
                    state.ofState(1) + state.ofClaim(0, 5));
            }
        }
    }

    private static void paidFromThePledgeFirst() {
        int[][] asideThenPurse = {
            {0, 0, 400}, {1, 0, 401}, {99, 0, 499}, {100, 0, 500}, {101, 1, 500}, {500, 400, 500}
        };
        for (int[] due : asideThenPurse) {
            Claimclub state = withFlowOfHundred(500, due[0]);
            state.year(1);
            Check.same("what is left of " + due[0] + " aside", due[1], state.ofClaim(0, 5));
            Check.same("what is left in the purse with " + due[0] + " aside", due[2], state.ofState(1));
        }
        Claimclub others = withFlowOfHundred(0, 300);
        Bounds.claim(others, 0, 1, 1000, 1000, 9);
        Check.same("not from that of another one", 100, others.year(1));
        Check.same("nothing to the other one", 0, others.ofClaim(1, 4));
    }

    private static void paidFromThePledgeInAMoratorium() {
        int[] asides = {0, 1, 100, 101};
        for (int aside : asides) {
            Claimclub state = withFlowOfHundred(500, aside);
            state.moratorium(Claimclub.SUPPLIER, true);
            Check.same(aside + " aside", Math.min(aside, 100), state.year(1));
            Check.same("the purse stays, with " + aside + " aside", 500, state.ofState(1));
        }
    }

    private static void notFromThePurseInAMoratorium() {
        for (int kind = Claimclub.CLUB; kind <= Claimclub.FUND; kind++) {
            Claimclub state = withFlowOfHundred(500, 0);
            state.moratorium(kind, true);
            Check.same("a supplier's, with one on " + kind, kind == Claimclub.SUPPLIER ? 0 : 100, state.year(1));
            state.moratorium(kind, false);
            Check.same("when it is over, " + kind, kind == Claimclub.SUPPLIER ? 205 : 100, state.year(1));
        }
        Claimclub due = new Claimclub();
        Bounds.paid(due, 0);
        Bounds.claim(due, 2, 1, 10, 0, 1);
        due.moratorium(2, true);
        due.economy(0, 0, 100);
        due.year(1);
        Check.same("the one that is due stays open", Claimclub.OPEN, due.ofClaim(1, 0));
    }

    private static void paidFromAPurseAboveZero() {
        int[][] pursesPaid = {{-1000, 0}, {-1, 0}, {0, 0}, {1, 1}, {99, 99}, {100, 100}, {101, 100}};
        for (int[] due : pursesPaid) {
            Claimclub state = new Claimclub();
            Bounds.claim(state, 0, 1, 1000, 1000, 9);
            state.economy(0, -1, 1000 + due[0]);
            Check.same("from " + due[0], due[1], state.year(1));
            Check.same("what is left of " + due[0], due[0] - due[1], state.ofState(1));
        }
    }

    private static void theRestStaysAsArrears() {
        Claimclub state = withFlowOfHundred(0, 0);
        state.year(1);
        Check.same("all of it", 100, state.ofClaim(0, 2));
        state.economy(0, 0, 204);
        state.year(1);
        Check.same("all but 1 is paid", 1, state.ofClaim(0, 2));
        state.economy(0, 0, 101);
        state.year(1);
        Check.same("nothing stays", 0, state.ofClaim(0, 2));
        Check.same("nothing is left", 0, state.ofState(1));
    }

    // ---- who is PAID

    private static void tellOfEnds(Sentences all) {
        all.test("Terms", "Who is due in that year or before, and has no arrears, is PAID",
            TermsOfYearsBounds::whoIsPaid);
        all.test("Terms", "what lies aside for it yet comes to the purse, all of that ahead of the next one",
            TermsOfYearsBounds::whatLiesAsideComesToThePurse);
        all.test("Terms", "Claims of the state itself are not paid", TermsOfYearsBounds::theStatesOwnAreNotPaid);
        all.test("Terms", "and have no arrears", TermsOfYearsBounds::theStatesOwnHaveNoArrears);
        all.test("Terms", "they are PAID as they are due", TermsOfYearsBounds::theStatesOwnArePaidAsTheyAreDue);
        all.test("Terms", "their principals stay told", TermsOfYearsBounds::theStatesOwnPrincipalsStayTold);
    }

    private static void whoIsPaid() {
        Claimclub state = new Claimclub();
        Bounds.claim(state, 0, 1, 100, 1000, 2);
        state.economy(0, 0, 10);
        state.year(1);
        Check.same("without arrears the year before", Claimclub.OPEN, state.ofClaim(0, 0));
        state.economy(0, 0, 109);
        state.year(1);
        Check.same("with arrears of 1 in that year", Claimclub.OPEN, state.ofClaim(0, 0));
        state.year(1);
        Check.same("with arrears of 1 after it", Claimclub.OPEN, state.ofClaim(0, 0));
        state.economy(0, 0, 1);
        state.year(1);
        Check.same("without arrears after it", Claimclub.PAID, state.ofClaim(0, 0));
        Claimclub at = new Claimclub();
        Bounds.claim(at, 0, 1, 100, 1000, 2);
        at.economy(0, 0, 120);
        at.year(2);
        Check.same("without arrears in that year", Claimclub.PAID, at.ofClaim(0, 0));
        Bounds.tells("a paid one", at, 0, Claimclub.PAID, 0, 0, 2, 120, 0, 0, Claimclub.NONE);
    }

    private static void whatLiesAsideComesToThePurse() {
        Claimclub state = new Claimclub();
        int[] principals = {500, 10, 500};
        for (int principal : principals) {
            Bounds.claim(state, 0, 1, principal, 0, 1);
        }
        state.economy(0, 0, 310);
        state.pledge(1, 310);
        Check.same("from the pledge, and from what came of it", 310, state.year(1));
        Check.same("not to the one before", 0, state.ofClaim(0, 4));
        Check.same("to itself", 10, state.ofClaim(1, 4));
        Check.same("to the next one", 300, state.ofClaim(2, 4));
        Check.same("nothing lies aside", 0, state.ofClaim(1, 5));
        Claimclub ranks = new Claimclub();
        Bounds.claim(ranks, 0, 1, 10, 0, 1);
        ranks.claim(0, 1, 10, 0, 1, 1, -1, false);
        ranks.claim(0, 1, 500, 0, 1, 0, -1, false);
        ranks.economy(0, 0, 310);
        ranks.pledge(1, 310);
        ranks.year(1);
        Check.same("not to one of a rank before", 0, ranks.ofClaim(2, 4));
        Check.same("but to the purse", 300, ranks.ofState(1));
        Claimclub exact = new Claimclub();
        Bounds.claim(exact, 0, 1, 10, 0, 1);
        exact.economy(0, 0, 10);
        exact.pledge(0, 10);
        exact.year(1);
        Check.same("nothing comes of a pledge that is used up", 0, exact.ofState(1));
    }

    private static Claimclub withTheStatesOwn() {
        Claimclub state = new Claimclub();
        Bounds.claim(state, Claimclub.BANK, 0, 1000, 1000, 2);
        state.economy(0, 0, 5000);
        state.pledge(0, 70);
        return state;
    }

    private static void theStatesOwnAreNotPaid() {
        Claimclub state = withTheStatesOwn();
        Check.same("neither coupons nor the principal", 0, state.year(2));
        Check.same("nothing so far", 0, state.ofClaim(0, 4));
        Check.same("nothing anew", 0, state.paidAnew(0));
        Check.same("what lay aside came to the purse", 5000, state.ofState(1));
    }

    private static void theStatesOwnHaveNoArrears() {
        Claimclub state = withTheStatesOwn();
        for (int year = 1; year <= 4; year++) {
            state.year(1);
            Check.same("in the year " + year, 0, state.ofClaim(0, 2));
        }
    }

    private static void theStatesOwnArePaidAsTheyAreDue() {
        Claimclub state = withTheStatesOwn();
        state.moratorium(Claimclub.BANK, true);
        state.year(1);
        Check.same("the year before", Claimclub.OPEN, state.ofClaim(0, 0));
        Check.same("its pledge then", 70, state.ofClaim(0, 5));
        state.year(1);
        Check.same("in that year, in a moratorium too", Claimclub.PAID, state.ofClaim(0, 0));
        Check.same("its pledge is no more", 0, state.ofClaim(0, 5));
    }

    private static void theStatesOwnPrincipalsStayTold() {
        Claimclub state = withTheStatesOwn();
        state.year(1);
        Check.same("the year before", 1000, state.ofClaim(0, 1));
        state.year(1);
        Check.same("in that year", 1000, state.ofClaim(0, 1));
        state.year(10);
        Check.same("long after it", 1000, state.ofClaim(0, 1));
        Check.same("it is worth nothing then", 0, state.value(0, 0));
    }
}
