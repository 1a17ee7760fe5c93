import java.util.function.Consumer;
import java.util.function.Supplier;

/** Promises 13 to 18, sentence by sentence, at their bounds. */
final class SuitsAndProgrammeBounds {
    private static final Class<? extends RuntimeException> BAD_INDEX = Check.BAD_INDEX;
    private static final Class<? extends RuntimeException> BAD_ARGUMENT = Check.BAD_ARGUMENT;
    private static final Class<? extends RuntimeException> BAD_STATE = Check.BAD_STATE;

    private SuitsAndProgrammeBounds() {
    }

    static void tell(Sentences all) {
        tellPromises13And14(all);
        tellPromise15(all);
        tellPromises16And17(all);
        tellPromise18(all);
    }

    // ---- promises 13 and 14: thing, sue

    private static void tellPromises13And14(Sentences all) {
        all.test("Promise 13", "Takes a thing of the state up", SuitsAndProgrammeBounds::thingIsTakenUp);
        all.test("Promise 13", "`worth`: 1 to 1000000", SuitsAndProgrammeBounds::thingWorth);
        all.test("Promise 13", "Returns its number", SuitsAndProgrammeBounds::thingReturnsItsNumber);
        all.test("Promise 13", "Throws `IllegalArgumentException` if worth is out of range",
            SuitsAndProgrammeBounds::thingOfAWrongWorth);
        all.test("Promise 13", "Throws `IllegalStateException` if there are 10",
            SuitsAndProgrammeBounds::thingAmongTen);
        all.test("Promise 14", "Sues.", SuitsAndProgrammeBounds::sueBeginsASuit);
        all.test("Promise 14", "`claim`: the number of a claim", SuitsAndProgrammeBounds::sueClaim);
        all.test("Promise 14", "Throws `IndexOutOfBoundsException` if there is no such claim",
            SuitsAndProgrammeBounds::sueForNoClaim);
        all.test("Promise 14", "if it is not OPEN", SuitsAndProgrammeBounds::sueForOneNotOpen);
        all.test("Promise 14", "has no arrears", SuitsAndProgrammeBounds::sueWithoutArrears);
        all.test("Promise 14", "or sued", SuitsAndProgrammeBounds::sueTwice);
    }

    private static void thingIsTakenUp() {
        Claimclub state = new Claimclub();
        Bounds.judge(state);
        String before = Seen.of(state);
        state.thing(100);
        Check.same("nothing else changes by it", before, Seen.of(state));
        Check.same("it may be seized", 100, state.seize(0, 0));
    }

    private static void thingWorth() {
        Supplier<Claimclub> made = Bounds.made(Bounds::judge);
        Bounds.range(BAD_ARGUMENT, made, 1, 1000000, (state, worth) -> state.thing(worth));
        for (int worth : new int[] {1, 2, 999999, 1000000}) {
            Claimclub state = made.get();
            state.thing(worth);
            long paid = state.seize(0, 0);
            Check.same("what " + worth + " brings in all", worth, paid + state.ofState(1));
            Check.same("what is paid by " + worth, Math.min(worth, 1205), paid);
        }
    }

    private static void thingReturnsItsNumber() {
        Claimclub state = new Claimclub();
        Bounds.judge(state);
        for (int number = 0; number < 10; number++) {
            Check.same("the next number", number, state.thing(1 + number));
        }
        for (int number = 9; number >= 0; number--) {
            Check.same("the thing of that number", 1 + number, state.seize(0, number));
        }
    }

    private static void thingOfAWrongWorth() {
        Bounds.refused("too small, alone", BAD_ARGUMENT, Claimclub::new, state -> state.thing(0));
        Bounds.refused("too large, alone", BAD_ARGUMENT, Claimclub::new, state -> state.thing(1000001));
        Supplier<Claimclub> ten = Bounds.made(state -> Bounds.things(state, 10, 5));
        Bounds.refused("too small, and there are 10", BAD_ARGUMENT, ten, state -> state.thing(0));
        Bounds.refused("too large, and there are 10", BAD_ARGUMENT, ten, state -> state.thing(1000001));
    }

    private static void thingAmongTen() {
        Bounds.taken("there are 9", Bounds.made(state -> Bounds.things(state, 9, 5)), state -> state.thing(5));
        Bounds.refused("there are 10", BAD_STATE, Bounds.made(state -> Bounds.things(state, 10, 5)),
            state -> state.thing(5));
        Bounds.refused("there are 10, one of them seized", BAD_STATE, Bounds.made(state -> {
            Bounds.judge(state);
            Bounds.things(state, 10, 5);
            state.seize(0, 3);
        }), state -> state.thing(5));
    }

    private static void sueBeginsASuit() {
        Claimclub state = new Claimclub();
        Bounds.claim(state, 0, 1, 1000, 1000, 9);
        state.year(1);
        Check.same("without a suit", 0, state.ofClaim(0, 6));
        state.sue(0);
        Bounds.tells("it sued", state, 0, Claimclub.OPEN, 1000, 100, 9, 0, 0, 1, Claimclub.NONE);
    }

    private static void sueClaim() {
        Bounds.noNumber(Claimclub::new, (state, claim) -> state.sue(claim));
        Supplier<Claimclub> forty = Bounds.made(state -> {
            for (int number = 0; number < 40; number++) {
                Bounds.claim(state, 0, 1, 1000, 1000, 9);
            }
            state.year(1);
        });
        Bounds.numbers(forty, 40, (state, claim) -> state.sue(claim));
        Claimclub state = forty.get();
        state.sue(39);
        for (int claim = 0; claim < 40; claim++) {
            Check.same("the suit of " + claim, claim == 39 ? 1 : 0, state.ofClaim(claim, 6));
        }
    }

    private static void sueForNoClaim() {
        Bounds.refused("without claims", BAD_INDEX, Claimclub::new, state -> state.sue(0));
        Supplier<Claimclub> one = Bounds.made(Bounds::judge);
        Bounds.refused("behind the last one", BAD_INDEX, one, state -> state.sue(1));
        Bounds.refused("ahead of the first one", BAD_INDEX, one, state -> state.sue(-1));
    }

    private static void sueForOneNotOpen() {
        Bounds.refused("a paid one", BAD_STATE, Bounds.made(state -> Bounds.paid(state, Claimclub.CLUB)),
            state -> state.sue(0));
        Supplier<Claimclub> swapped = Bounds.made(state -> {
            Bounds.claim(state, 0, 1, 1000, 1000, 9);
            Bounds.offers(state, 1);
            state.year(1);
            state.accept(0, 0);
        });
        Check.same("arrears of a swapped one stay told", 100, swapped.get().ofClaim(0, 2));
        Bounds.refused("a swapped one, with arrears", BAD_STATE, swapped, state -> state.sue(0));
    }

    private static void sueWithoutArrears() {
        Supplier<Claimclub> made = Bounds.made(state -> {
            Bounds.claim(state, 0, 1, 1000, 1000, 9);
            state.economy(0, 0, 99);
        });
        Bounds.refused("in its first year", BAD_STATE, made, state -> state.sue(0));
        Bounds.taken("arrears of 1", Bounds.made(state -> {
            Bounds.claim(state, 0, 1, 1000, 1000, 9);
            state.economy(0, 0, 99);
            state.year(1);
        }), state -> state.sue(0));
        Bounds.refused("all was paid", BAD_STATE, Bounds.made(state -> {
            Bounds.claim(state, 0, 1, 1000, 1000, 9);
            state.economy(0, 0, 100);
            state.year(1);
        }), state -> state.sue(0));
        Bounds.refused("the state's own", BAD_STATE, Bounds.made(state -> {
            Bounds.claim(state, 0, 0, 1000, 1000, 9);
            state.year(1);
        }), state -> state.sue(0));
    }

    private static void sueTwice() {
        Supplier<Claimclub> sued = Bounds.made(state -> {
            Bounds.claim(state, 0, 1, 1000, 1000, 9);
            state.year(1);
            state.sue(0);
        });
        Bounds.refused("it sued", BAD_STATE, sued, state -> state.sue(0));
        Supplier<Claimclub> judged = Bounds.made(Bounds::judge);
        Bounds.refused("it is judged", BAD_STATE, judged, state -> state.sue(0));
        Bounds.refused("it is judged, and seized for its arrears", BAD_STATE, Bounds.made(state -> {
            Bounds.judge(state);
            state.seize(0, state.thing(300));
            state.year(1);
        }), state -> state.sue(0));
        Bounds.taken("but its new one, with arrears of its own", Bounds.made(state -> {
            Bounds.judge(state);
            state.accept(0, state.offer(0, 1000, 9));
            state.year(1);
        }), state -> state.sue(1));
    }

    // ---- promise 15: seize

    private static void tellPromise15(Sentences all) {
        all.test("Promise 15", "Seizes a thing", SuitsAndProgrammeBounds::seizeOfThatThing);
        all.test("Promise 15", "`claim`: the number of a claim", SuitsAndProgrammeBounds::seizeClaim);
        all.test("Promise 15", "`thing`: the number of a thing", SuitsAndProgrammeBounds::seizeThing);
        all.test("Promise 15", "Returns what is paid to the claim", SuitsAndProgrammeBounds::seizeReturnsWhatIsPaid);
        all.test("Promise 15", "Throws `IndexOutOfBoundsException` if there is no such claim or thing",
            SuitsAndProgrammeBounds::seizeByNoClaimOrNoThing);
        all.test("Promise 15", "if it is not OPEN", SuitsAndProgrammeBounds::seizeByOneNotOpen);
        all.test("Promise 15", "or not judged", SuitsAndProgrammeBounds::seizeByOneNotJudged);
        all.test("Promise 15", "or the thing was seized", SuitsAndProgrammeBounds::seizeTwice);
    }

    private static void seizeOfThatThing() {
        Claimclub state = new Claimclub();
        Bounds.judge(state);
        Bounds.things(state, 2, 50);
        Check.same("the second", 50, state.seize(0, 1));
        Check.same("the first is there yet", 50, state.seize(0, 0));
        Bounds.tells("the claim", state, 0, Claimclub.OPEN, 1000, 105, 9, 100, 0, 2, Claimclub.NONE);
    }

    private static void seizeClaim() {
        Bounds.noNumber(Bounds.made(state -> Bounds.things(state, 1, 5)), (state, claim) -> state.seize(claim, 0));
        Supplier<Claimclub> forty = Bounds.made(state -> {
            for (int number = 0; number < 40; number++) {
                Bounds.claim(state, 0, 1, 1000, 1000, 9);
            }
            state.year(1);
            for (int number = 0; number < 40; number++) {
                state.sue(number);
            }
            state.year(1);
            Bounds.things(state, 1, 5);
        });
        Bounds.numbers(forty, 40, (state, claim) -> state.seize(claim, 0));
        Claimclub state = forty.get();
        state.seize(39, 0);
        Check.same("that claim", 5, state.ofClaim(39, 4));
        Check.same("and none beside it", 0, state.ofClaim(38, 4) + state.ofClaim(7, 4) + state.ofClaim(0, 4));
    }

    private static void seizeThing() {
        Supplier<Claimclub> none = Bounds.made(Bounds::judge);
        Bounds.noNumber(none, (state, thing) -> state.seize(0, thing));
        Supplier<Claimclub> ten = Bounds.made(state -> {
            Bounds.judge(state);
            for (int number = 0; number < 10; number++) {
                state.thing(1 + number);
            }
        });
        Bounds.numbers(ten, 10, (state, thing) -> state.seize(0, thing));
        Check.same("the last one", 10, ten.get().seize(0, 9));
        Check.same("the first one", 1, ten.get().seize(0, 0));
    }

    private static void seizeReturnsWhatIsPaid() {
        int[] worths = {1, 204, 205, 206, 1204, 1205, 1206, 1000000};
        long[] paid = {1, 204, 205, 206, 1204, 1205, 1205, 1205};
        for (int i = 0; i < worths.length; i++) {
            Claimclub state = new Claimclub();
            Bounds.judge(state);
            state.thing(worths[i]);
            Check.same("of " + worths[i], paid[i], state.seize(0, 0));
            Check.same("of " + worths[i] + ", as told", paid[i], state.ofClaim(0, 4));
            Check.same("of " + worths[i] + ", added anew", paid[i], state.paidAnew(0));
        }
    }

    private static void seizeByNoClaimOrNoThing() {
        Supplier<Claimclub> made = Bounds.made(state -> {
            Bounds.judge(state);
            Bounds.things(state, 1, 5);
        });
        Bounds.refused("no claim, alone", BAD_INDEX, made, state -> state.seize(1, 0));
        Bounds.refused("no thing, alone", BAD_INDEX, made, state -> state.seize(0, 1));
        Bounds.refused("neither", BAD_INDEX, made, state -> state.seize(-1, -1));
        Bounds.refused("no thing, and it is not open", BAD_INDEX,
            Bounds.made(state -> Bounds.paid(state, Claimclub.CLUB)), state -> state.seize(0, 0));
        Bounds.refused("no thing, and it is not judged", BAD_INDEX,
            Bounds.made(state -> Bounds.suppliers(state, 1)), state -> state.seize(0, 0));
        Bounds.refused("no claim, and the thing was seized", BAD_INDEX, Bounds.made(state -> {
            Bounds.judge(state);
            Bounds.things(state, 1, 5);
            state.seize(0, 0);
        }), state -> state.seize(1, 0));
    }

    private static void seizeByOneNotOpen() {
        Supplier<Claimclub> paid = Bounds.made(state -> {
            Bounds.judge(state);
            Bounds.things(state, 2, 1205);
            state.seize(0, 0);
        });
        Check.same("paid by a thing, and judged", Claimclub.PAID, paid.get().ofClaim(0, 0));
        Check.same("judged yet", 2, paid.get().ofClaim(0, 6));
        Bounds.refused("a paid one, for another thing", BAD_STATE, paid, state -> state.seize(0, 1));
        Bounds.refused("a paid one, for the same thing", BAD_STATE, paid, state -> state.seize(0, 0));
        Bounds.refused("a swapped one", BAD_STATE, Bounds.made(state -> {
            Bounds.judge(state);
            Bounds.things(state, 1, 5);
            state.accept(0, state.offer(0, 0, 9));
        }), state -> state.seize(0, 0));
        Bounds.refused("one that was paid as it was judged", BAD_STATE, Bounds.made(state -> {
            Bounds.claim(state, 0, 1, 1000, 1000, 2);
            Bounds.things(state, 1, 5);
            state.year(1);
            state.sue(0);
            state.economy(0, 0, 10000);
            state.year(1);
        }), state -> state.seize(0, 0));
    }

    private static void seizeByOneNotJudged() {
        Supplier<Claimclub> unsued = Bounds.made(state -> {
            Bounds.claim(state, 0, 1, 1000, 1000, 9);
            Bounds.things(state, 1, 5);
            state.year(2);
        });
        Bounds.refused("without a suit", BAD_STATE, unsued, state -> state.seize(0, 0));
        Bounds.refused("it sued in that year", BAD_STATE, Bounds.made(state -> {
            Bounds.claim(state, 0, 1, 1000, 1000, 9);
            Bounds.things(state, 1, 5);
            state.year(1);
            state.sue(0);
        }), state -> state.seize(0, 0));
        Bounds.refused("the new one of a judged one", BAD_STATE, Bounds.made(state -> {
            Bounds.judge(state);
            Bounds.things(state, 1, 5);
            state.accept(0, state.offer(0, 0, 9));
        }), state -> state.seize(1, 0));
        Bounds.refused("another one is judged", BAD_STATE, Bounds.made(state -> {
            Bounds.judge(state);
            Bounds.claim(state, 3, 5, 1000, 1000, 9);
            Bounds.things(state, 1, 5);
        }), state -> state.seize(1, 0));
    }

    private static void seizeTwice() {
        Supplier<Claimclub> seized = Bounds.made(state -> {
            Bounds.claim(state, 3, 5, 1000, 1000, 9);
            Bounds.claim(state, 3, 5, 1000, 1000, 9);
            state.year(1);
            state.sue(0);
            state.sue(1);
            state.year(1);
            Bounds.things(state, 2, 5);
            state.seize(0, 0);
        });
        Bounds.refused("by the same claim", BAD_STATE, seized, state -> state.seize(0, 0));
        Bounds.refused("by another one", BAD_STATE, seized, state -> state.seize(1, 0));
        Bounds.taken("but the other thing", seized, state -> state.seize(1, 1));
    }

    // ---- promises 16 and 17: programme, assure

    private static void tellPromises16And17(Sentences all) {
        all.test("Promise 16", "Agrees on a programme, in place of one",
            SuitsAndProgrammeBounds::programmeInPlaceOfOne);
        all.test("Promise 16", "`amount`: 1 to 1000000", SuitsAndProgrammeBounds::programmeAmount);
        all.test("Promise 16", "`target`: -200 to 200", SuitsAndProgrammeBounds::programmeTarget);
        all.test("Promise 16", "`reviews`: 1 to 10", SuitsAndProgrammeBounds::programmeReviews);
        all.test("Promise 16", "Throws `IllegalArgumentException` if an argument is out of range",
            SuitsAndProgrammeBounds::programmeWithAWrongArgument);
        all.test("Promise 17", "Tells that a lender gives assurance, or not",
            SuitsAndProgrammeBounds::assureThatLender);
        all.test("Promise 17", "`lender`: 0 to 7", SuitsAndProgrammeBounds::assureLender);
        all.test("Promise 17", "whether it is given then", SuitsAndProgrammeBounds::assureIsGivenOrNot);
        all.test("Promise 17", "Returns whether that changes something", SuitsAndProgrammeBounds::assureTellsOfChange);
        all.test("Promise 17", "Throws `IndexOutOfBoundsException` if there is no such lender",
            SuitsAndProgrammeBounds::assureOfNoLender);
    }

    private static void programmeInPlaceOfOne() {
        Claimclub state = new Claimclub();
        state.programme(5, 200, 10);
        Check.same("the first one's target", 1, state.review());
        state.programme(7, -200, 1);
        Check.same("the reviews of the second one", 1, state.ofState(4));
        Check.same("its target", 0, state.review());
        Check.same("its amount", 7, state.ofState(1));
        Check.same("all were done", 0, state.ofState(4));
        state.programme(9, 0, 2);
        Check.same("a third one", 2, state.ofState(4));
        Check.same("its review", 0, state.review());
        Check.same("both amounts", 16, state.ofState(1));
    }

    private static void programmeAmount() {
        Bounds.range(BAD_ARGUMENT, Claimclub::new, 1, 1000000, (state, amount) -> state.programme(amount, 0, 1));
        for (int amount : new int[] {1, 2, 999999, 1000000}) {
            Claimclub state = new Claimclub();
            state.programme(amount, 0, 1);
            state.review();
            Check.same("the purse", amount, state.ofState(1));
            Check.same("the debt", amount, state.ofState(3));
        }
    }

    private static void programmeTarget() {
        Bounds.range(BAD_ARGUMENT, Claimclub::new, -200, 200, (state, target) -> state.programme(1, target, 1));
        for (int target : new int[] {-199, -1, 0, 1, 199, 200}) {
            Claimclub state = new Claimclub();
            state.programme(1, target, 1);
            state.economy(0, target - 1, 0);
            Check.same("1 below " + target, 1, state.review());
            state.economy(0, target, 0);
            Check.same("at " + target, 0, state.review());
        }
        Claimclub lowest = new Claimclub();
        lowest.programme(1, -200, 1);
        lowest.economy(0, -200, 0);
        Check.same("the lowest", 0, lowest.review());
    }

    private static void programmeReviews() {
        Bounds.range(BAD_ARGUMENT, Claimclub::new, 1, 10, (state, reviews) -> state.programme(1, 0, reviews));
        for (int reviews = 1; reviews <= 10; reviews++) {
            Claimclub state = new Claimclub();
            state.programme(1, 0, reviews);
            for (int left = reviews; left > 0; left--) {
                Check.same("so many are left", left, state.ofState(4));
                Check.same("one of them", 0, state.review());
            }
            Check.same("none is left", 0, state.ofState(4));
            Check.same("each paid once", reviews, state.ofState(1));
        }
    }

    private static void refuseWrongArguments(Supplier<Claimclub> made) {
        Bounds.refused("amount, too small", BAD_ARGUMENT, made, state -> state.programme(0, 1, 2));
        Bounds.refused("amount, too large", BAD_ARGUMENT, made, state -> state.programme(1000001, 1, 2));
        Bounds.refused("target, too small", BAD_ARGUMENT, made, state -> state.programme(2, -201, 2));
        Bounds.refused("target, too large", BAD_ARGUMENT, made, state -> state.programme(2, 201, 2));
        Bounds.refused("reviews, too few", BAD_ARGUMENT, made, state -> state.programme(2, 1, 0));
        Bounds.refused("reviews, too many", BAD_ARGUMENT, made, state -> state.programme(2, 1, 11));
        Bounds.refused("all of them, too small", BAD_ARGUMENT, made, state -> state.programme(0, -201, 0));
        Bounds.refused("all of them, too large", BAD_ARGUMENT, made, state -> state.programme(1000001, 201, 11));
    }

    private static void programmeWithAWrongArgument() {
        refuseWrongArguments(Claimclub::new);
        refuseWrongArguments(Bounds.made(state -> state.programme(5, 0, 3)));
    }

    /** A claim of the club for each lender, from 0 to 7, of 10 each, and a programme of 1. */
    private static Supplier<Claimclub> oneOfEachLender() {
        return Bounds.made(state -> {
            for (int lender = 0; lender <= 7; lender++) {
                Bounds.claim(state, Claimclub.CLUB, lender, 10, 0, 9);
            }
            state.programme(1, 0, 9);
        });
    }

    private static void assureThatLender() {
        for (int lender = 0; lender <= 7; lender++) {
            Claimclub state = oneOfEachLender().get();
            for (int other = 0; other < 4; other++) {
                Check.same("less than half", 3, state.review());
                state.assure((lender + other) % 8, true);
            }
            Check.same("a half", 0, state.review());
            state.assure(lender, false);
            Check.same("not any more", 3, state.review());
        }
    }

    private static void assureLender() {
        Bounds.range(BAD_INDEX, oneOfEachLender(), 0, 7, (state, lender) -> state.assure(lender, true));
    }

    private static void assureIsGivenOrNot() {
        Claimclub state = new Claimclub();
        Bounds.claim(state, Claimclub.BANK, 7, 10, 0, 9);
        state.programme(1, 0, 9);
        state.assure(7, false);
        Check.same("not given", 3, state.review());
        state.assure(7, true);
        Check.same("given", 0, state.review());
        state.assure(7, false);
        Check.same("not given any more", 3, state.review());
    }

    private static void assureTellsOfChange() {
        for (int lender = 0; lender <= 7; lender++) {
            Claimclub state = new Claimclub();
            Check.same("not given, at first", false, state.assure(lender, false));
            Check.same("given", true, state.assure(lender, true));
            Check.same("given, again", false, state.assure(lender, true));
            Check.same("not given", true, state.assure(lender, false));
            Check.same("not given, again", false, state.assure(lender, false));
        }
    }

    private static void assureOfNoLender() {
        for (int lender : new int[] {-1, 8}) {
            Bounds.refused("given, " + lender, BAD_INDEX, oneOfEachLender(), state -> state.assure(lender, true));
            Bounds.refused("not given, " + lender, BAD_INDEX, oneOfEachLender(), state -> state.assure(lender, false));
        }
    }

    // ---- promise 18: review

    private static void tellPromise18(Sentences all) {
        all.test("Promise 18", "one that fails may be done again", SuitsAndProgrammeBounds::reviewMayBeDoneAgain);
        all.test("Promise 18", "Returns 0, if it does not fail", SuitsAndProgrammeBounds::reviewReturnsNone);
        all.test("Promise 18", "otherwise why, 1 to 3", SuitsAndProgrammeBounds::reviewReturnsWhy);
        all.test("Promise 18", "if there is no programme", SuitsAndProgrammeBounds::reviewOfNoProgramme);
        all.test("Promise 18", "all of its reviews were done", SuitsAndProgrammeBounds::reviewWhenAllWereDone);
        all.test("Promise 18", "or there are 40 claims", SuitsAndProgrammeBounds::reviewAmongForty);
    }

    private static void reviewMayBeDoneAgain() {
        Claimclub state = new Claimclub();
        state.programme(5, 1, 1);
        for (int time = 0; time < 20; time++) {
            Check.same("it fails", 1, state.review());
            Check.same("it is left", 1, state.ofState(4));
        }
        Check.same("no money", 0, state.ofState(1));
        Check.same("no claim", 0, Seen.claims(state));
        state.economy(0, 1, 0);
        Check.same("it does not fail", 0, state.review());
        Check.same("it is done", 0, state.ofState(4));
    }

    private static void reviewReturnsNone() {
        Claimclub state = new Claimclub();
        state.programme(5, 0, 2);
        Check.same("without claims", 0, state.review());
        Check.same("with the fund's claim", 0, state.review());
    }

    private static void reviewReturnsWhy() {
        Claimclub state = new Claimclub();
        Bounds.claim(state, Claimclub.FUND, 7, 1000, 1000, 9);
        Bounds.claim(state, Claimclub.CLUB, 1, 1000, 0, 9);
        state.year(1);
        state.programme(5, 1, 1);
        Check.same("all three are so", 1, state.review());
        state.economy(0, 1, 0);
        Check.same("the last two are so", 2, state.review());
        state.assure(1, true);
        Check.same("the second is so", 2, state.review());
        state.assure(1, false);
        state.economy(0, 1, 10000);
        state.year(1);
        Check.same("the last is so", 3, state.review());
        state.economy(0, 0, 0);
        Check.same("the first and the last are so", 1, state.review());
        state.assure(1, true);
        Check.same("the first is so", 1, state.review());
        state.economy(0, 1, 0);
        Check.same("none is so", 0, state.review());
    }

    private static void reviewOfNoProgramme() {
        Consumer<Claimclub> call = state -> state.review();
        Bounds.refused("a new state", BAD_STATE, Claimclub::new, call);
        Bounds.refused("and there are 40", BAD_STATE, Bounds.made(state -> Bounds.suppliers(state, 40)), call);
        Bounds.refused("and it would fail", BAD_STATE, Bounds.made(state -> {
            Bounds.claim(state, Claimclub.CLUB, 1, 10, 0, 9);
            state.economy(0, -200, 0);
        }), call);
        Supplier<Claimclub> refused = Bounds.made(state -> Check.thrownBy(() -> state.programme(0, 0, 1)));
        Bounds.refused("only one that was refused", BAD_STATE, refused, call);
    }

    private static void reviewWhenAllWereDone() {
        for (int reviews : new int[] {1, 2, 10}) {
            Consumer<Claimclub> allButOne = state -> {
                state.programme(1, 0, reviews);
                for (int done = 1; done < reviews; done++) {
                    state.review();
                }
            };
            Bounds.taken("the last of " + reviews, Bounds.made(allButOne), state -> state.review());
            Bounds.refused("1 more than " + reviews, BAD_STATE,
                Bounds.made(allButOne.andThen(state -> state.review())), state -> state.review());
        }
    }

    private static void reviewAmongForty() {
        Consumer<Claimclub> call = state -> state.review();
        Bounds.taken("there are 39", Bounds.made(state -> {
            Bounds.suppliers(state, 39);
            state.programme(1, 0, 2);
        }), call);
        Bounds.refused("there are 40", BAD_STATE, Bounds.made(state -> {
            Bounds.suppliers(state, 40);
            state.programme(1, 0, 2);
        }), call);
        Bounds.refused("there are 40, for a review made the last one", BAD_STATE, Bounds.made(state -> {
            Bounds.suppliers(state, 39);
            state.programme(1, 0, 2);
            state.review();
        }), call);
        Bounds.refused("there are 40, and it would fail", BAD_STATE, Bounds.made(state -> {
            Bounds.suppliers(state, 40);
            state.programme(1, 200, 2);
        }), call);
        Bounds.refused("there are 40, and all were done", BAD_STATE, Bounds.made(state -> {
            Bounds.suppliers(state, 39);
            state.programme(1, 0, 1);
            state.review();
        }), call);
    }
}
