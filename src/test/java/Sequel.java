import java.util.function.LongSupplier;

/**
 * What a state answers from now on, by calls that change it, as one text: so that what no call tells by
 * itself is seen too, like rates, votes, moratoria, assurances, a programme, and which things were seized.
 */
final class Sequel {
    private final Claimclub state;
    private final StringBuilder told = new StringBuilder();

    private Sequel(Claimclub state) {
        this.state = state;
    }

    static String of(Claimclub state) {
        Sequel sequel = new Sequel(state);
        sequel.tellSeen();
        sequel.tellRatesAndSets();
        sequel.tellProgramme();
        sequel.tellVotes();
        sequel.tellSuits();
        sequel.tellRoom();
        sequel.tellYears();
        return sequel.told.toString();
    }

    private void tellSeen() {
        told.append(Seen.of(state));
    }

    private void tellRatesAndSets() {
        tell("discount", () -> state.discount(800));
        for (int kind = Claimclub.CLUB; kind <= Claimclub.FUND; kind++) {
            int stopped = kind;
            tell("moratorium", () -> state.moratorium(stopped, false) ? 1 : 0);
        }
        for (int claim = 0; claim < 3; claim++) {
            int shown = claim;
            tell("reveal", () -> state.reveal(shown));
        }
    }

    private void tellProgramme() {
        tell("review", state::review);
        for (int lender = 0; lender <= 7; lender++) {
            int given = lender;
            tell("assure", () -> state.assure(given, true) ? 1 : 0);
        }
        tell("review, all assured", state::review);
        tell("the purse", () -> state.ofState(1));
    }

    private void tellVotes() {
        for (int offer = 0; offer < 2; offer++) {
            int settled = offer;
            tell("settle", () -> state.settle(settled));
            tell("pooled", () -> state.passes(settled, Claimclub.NONE) ? 1 : 0);
        }
    }

    private void tellSuits() {
        for (int claim = 0; claim < 3; claim++) {
            int suing = claim;
            tell("sue", () -> {
                state.sue(suing);
                return 1;
            });
        }
        tell("year", () -> state.year(1));
        for (int thing = 0; thing < 10; thing++) {
            int seized = thing;
            for (int claim = 0; claim < 3; claim++) {
                int seizing = claim;
                tell("seize", () -> state.seize(seizing, seized));
            }
        }
    }

    private void tellRoom() {
        tell("the next thing", () -> state.thing(1));
        tell("the next offer", () -> state.offer(0, 0, 1));
        tell("the next claim", () -> state.claim(Claimclub.CLUB, 1, 1, 0, 1, 0, Claimclub.NONE, false));
    }

    private void tellYears() {
        tell("years", () -> state.year(5));
        tellSeen();
    }

    private void tell(String what, LongSupplier call) {
        told.append("; ").append(what).append(' ');
        try {
            told.append(call.getAsLong());
        } catch (RuntimeException thrown) {
            told.append(thrown.getClass().getSimpleName());
        }
    }
}
