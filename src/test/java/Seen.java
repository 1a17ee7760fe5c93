/** All that can be asked of a state without changing it, as one text. */
final class Seen {
    private static final int MOST_CLAIMS = 40;
    private static final int MOST_OFFERS = 12;

    private Seen() {
    }

    static String of(Claimclub state) {
        StringBuilder seen = new StringBuilder("state");
        for (int what = 0; what <= 4; what++) {
            seen.append(' ').append(state.ofState(what));
        }
        seen.append(" alike ").append(state.areAlike()).append(" effort");
        for (int kind = Claimclub.CLUB; kind <= Claimclub.FUND; kind++) {
            seen.append(' ').append(state.effort(kind));
        }
        seen.append(" bearable");
        for (int years = 1; years <= 30; years++) {
            seen.append(state.isBearable(years) ? " y" : " n");
        }
        int offers = offers(state);
        for (int offer = 0; offer < offers; offer++) {
            seen.append(" offer");
            for (int series = -1; series <= 3; series++) {
                seen.append(state.passes(offer, series) ? " y" : " n");
            }
        }
        int claims = claims(state);
        for (int claim = 0; claim < claims; claim++) {
            addClaim(seen, state, claim, offers);
        }
        return seen.toString();
    }

    private static void addClaim(StringBuilder seen, Claimclub state, int claim, int offers) {
        seen.append(" claim").append(claim).append(':');
        for (int what = 0; what <= 7; what++) {
            seen.append(' ').append(state.ofClaim(claim, what));
        }
        seen.append(" anew ").append(state.paidAnew(claim));
        seen.append(" worth ").append(state.value(claim, 0)).append(' ').append(state.value(claim, 777));
        for (int offer = 0; offer < offers; offer++) {
            seen.append(' ').append(state.offered(claim, offer, 500));
        }
    }

    static int claims(Claimclub state) {
        int count = 0;
        while (count <= MOST_CLAIMS && hasClaim(state, count)) {
            count++;
        }
        return count;
    }

    private static boolean hasClaim(Claimclub state, int claim) {
        return Check.thrownBy(() -> state.ofClaim(claim, 0)) == null;
    }

    static int offers(Claimclub state) {
        int count = 0;
        while (count <= MOST_OFFERS && hasOffer(state, count)) {
            count++;
        }
        return count;
    }

    private static boolean hasOffer(Claimclub state, int offer) {
        return Check.thrownBy(() -> state.passes(offer, 0)) == null;
    }
}
