import java.util.ArrayList;
import java.util.List;

/**
 * The document told a second time as a program, in its own order and its plainest form, for ModelTest to
 * compare the class with. It shares nothing with the class: where both agree, they read the document alike.
 */
final class Model {
    private static final int NONE = -1;
    private static final int CLUB = 0;
    private static final int BOND = 1;
    private static final int BANK = 2;
    private static final int FUND = 4;
    private static final int OPEN = 0;
    private static final int PAID = 1;
    private static final int SWAPPED = 2;

    private int claims = 0;
    private final int[] kindOf = new int[40];
    private final int[] lenderOf = new int[40];
    private final int[] couponOf = new int[40];
    private final int[] dueOf = new int[40];
    private final int[] rankOf = new int[40];
    private final int[] seriesOf = new int[40];
    private final int[] statusOf = new int[40];
    private final int[] suitOf = new int[40];
    private final int[] originOf = new int[40];
    private final boolean[] hidden = new boolean[40];
    private final long[] principalOf = new long[40];
    private final long[] arrearsOf = new long[40];
    private final long[] asideOf = new long[40];
    private final List<List<Long>> paymentsOf = new ArrayList<>();

    private long year = 0;
    private long purse = 0;
    private long output = 1000000;
    private int growth = 0;
    private int balance = 0;
    private final boolean[] moratoria = new boolean[5];

    private int rate = 800;
    private int offers = 0;
    private final int[][] offerOf = new int[12][];
    private final boolean[][] yes = new boolean[12][40];
    private final long[] worthBefore = new long[5];
    private final long[] worthAfter = new long[5];
    private final boolean[] swapped = new boolean[5];

    private final List<Integer> things = new ArrayList<>();
    private final boolean[] seized = new boolean[10];
    private final boolean[] assured = new boolean[8];
    private int amount = 0;
    private int target = 0;
    private int reviews = 0;

    // ---- claims, years

    int claim(int kind, int lender, int principal, int coupon, int years, int rank, int series, boolean isHidden) {
        argument(kind, 0, 4);
        argument(lender, 0, 7);
        argument(principal, 1, 1000000);
        argument(coupon, 0, 1000);
        argument(years, 1, 30);
        argument(rank, 0, 2);
        if (kind == BOND) {
            argument(series, 0, 3);
        } else {
            argument(series, NONE, NONE);
        }
        state(claims < 40);
        return add(kind, lender, principal, coupon, years, rank, series, isHidden, NONE);
    }

    private int add(int kind, int lender, long principal, int coupon, int years, int rank, int series,
            boolean isHidden, int origin) {
        int claim = claims++;
        kindOf[claim] = kind;
        lenderOf[claim] = lender;
        principalOf[claim] = principal;
        couponOf[claim] = coupon;
        dueOf[claim] = (int) year + years;
        rankOf[claim] = rank;
        seriesOf[claim] = series;
        hidden[claim] = isHidden;
        originOf[claim] = origin;
        paymentsOf.add(new ArrayList<>());
        return claim;
    }

    long pledge(int claim, int cents) {
        index(claim, claims);
        argument(cents, 1, 1000000);
        state(statusOf[claim] == OPEN && purse >= cents);
        purse -= cents;
        return asideOf[claim] += cents;
    }

    long reveal(int claim) {
        index(claim, claims);
        state(hidden[claim]);
        hidden[claim] = false;
        return debt();
    }

    long economy(int growth, int balance, int cents) {
        argument(growth, -1000, 1000);
        argument(balance, -200, 200);
        argument(cents, 0, 10000000);
        this.growth = growth;
        this.balance = balance;
        return purse += cents;
    }

    boolean moratorium(int kind, boolean isOn) {
        index(kind, 5);
        boolean isChange = moratoria[kind] != isOn;
        moratoria[kind] = isOn;
        return isChange;
    }

    long year(int years) {
        argument(years, 1, 10);
        state(year + years <= 60);
        long before = allPaid();
        for (int i = 0; i < years; i++) {
            nextYear();
        }
        return allPaid() - before;
    }

    private long allPaid() {
        long all = 0;
        for (int claim = 0; claim < claims; claim++) {
            all += paidAnew(claim);
        }
        return all;
    }

    private void nextYear() {
        purse += Math.floorDiv(output * balance, 1000);
        output += Math.floorDiv(output * growth, 10000);
        year++;
        for (int claim = 0; claim < claims; claim++) {
            if (statusOf[claim] == OPEN && suitOf[claim] == 1) {
                suitOf[claim] = 2;
            }
        }
        for (int place = 0; place < 3 * claims; place++) {
            int claim = place % claims;
            if (rankOf[claim] == place / claims && statusOf[claim] == OPEN) {
                look(claim);
            }
        }
    }

    private void look(int claim) {
        if (lenderOf[claim] != 0) {
            long flow = flow(principalOf[claim], couponOf[claim], dueOf[claim], year);
            arrearsOf[claim] += Math.floorDiv(arrearsOf[claim] * 500, 10000);
            arrearsOf[claim] += flow;
            if (year == dueOf[claim]) {
                principalOf[claim] = 0;
            }
            long first = Math.min(asideOf[claim], arrearsOf[claim]);
            asideOf[claim] -= first;
            long rest = arrearsOf[claim] - first;
            long then = moratoria[kindOf[claim]] || purse <= 0 ? 0 : Math.min(purse, rest);
            purse -= then;
            arrearsOf[claim] = rest - then;
            paymentsOf.get(claim).add(first + then);
        }
        if (dueOf[claim] <= year && arrearsOf[claim] == 0) {
            paid(claim);
        }
    }

    private void paid(int claim) {
        statusOf[claim] = PAID;
        purse += asideOf[claim];
        asideOf[claim] = 0;
    }

    private static long flow(long principal, int coupon, long due, long year) {
        if (year > due) {
            return 0;
        }
        return Math.floorDiv(principal * coupon, 10000) + (year == due ? principal : 0);
    }

    // ---- offers, votes

    int discount(int rate) {
        argument(rate, 0, 1500);
        int before = this.rate;
        this.rate = rate;
        return before;
    }

    int offer(int cut, int coupon, int years) {
        argument(cut, 0, 99);
        argument(coupon, 0, 1000);
        argument(years, 1, 30);
        state(offers < 12);
        offerOf[offers] = new int[] {cut, coupon, years};
        return offers++;
    }

    int accept(int claim, int offer) {
        index(claim, claims);
        index(offer, offers);
        state(kindOf[claim] != BOND && statusOf[claim] == OPEN && claims < 40);
        return swap(claim, offer);
    }

    private long owed(int claim) {
        return principalOf[claim] + arrearsOf[claim];
    }

    private long principalBy(int claim, int offer) {
        return Math.floorDiv(owed(claim) * (100 - offerOf[offer][0]), 100);
    }

    private int swap(int claim, int offer) {
        int kind = kindOf[claim];
        worthBefore[kind] += value(claim, rate);
        int fresh = add(kind, lenderOf[claim], principalBy(claim, offer), offerOf[offer][1], offerOf[offer][2],
            rankOf[claim], seriesOf[claim], hidden[claim], claim);
        worthAfter[kind] += value(fresh, rate);
        asideOf[fresh] = asideOf[claim];
        asideOf[claim] = 0;
        statusOf[claim] = SWAPPED;
        swapped[kind] = true;
        return fresh;
    }

    private boolean mayVote(int claim) {
        return kindOf[claim] == BOND && lenderOf[claim] != 0 && statusOf[claim] == OPEN;
    }

    void vote(int claim, int offer, boolean isYes) {
        index(claim, claims);
        index(offer, offers);
        state(mayVote(claim));
        yes[offer][claim] = isYes;
    }

    int settle(int offer) {
        index(offer, offers);
        List<Integer> chosen = new ArrayList<>();
        for (int claim = 0; claim < claims; claim++) {
            if (kindOf[claim] == BOND && statusOf[claim] == OPEN
                    && (passes(offer, NONE) || passes(offer, seriesOf[claim]))) {
                chosen.add(claim);
            }
        }
        state(claims + chosen.size() <= 40);
        for (int claim : chosen) {
            swap(claim, offer);
        }
        yes[offer] = new boolean[40];
        return chosen.size();
    }

    // ---- suits, the programme

    int thing(int worth) {
        argument(worth, 1, 1000000);
        state(things.size() < 10);
        things.add(worth);
        return things.size() - 1;
    }

    void sue(int claim) {
        index(claim, claims);
        state(statusOf[claim] == OPEN && arrearsOf[claim] > 0 && suitOf[claim] == 0);
        suitOf[claim] = 1;
    }

    long seize(int claim, int thing) {
        index(claim, claims);
        index(thing, things.size());
        state(statusOf[claim] == OPEN && suitOf[claim] == 2 && !seized[thing]);
        seized[thing] = true;
        long left = things.get(thing);
        long forArrears = Math.min(left, arrearsOf[claim]);
        arrearsOf[claim] -= forArrears;
        left -= forArrears;
        long forPrincipal = Math.min(left, principalOf[claim]);
        principalOf[claim] -= forPrincipal;
        purse += left - forPrincipal;
        paymentsOf.get(claim).add(forArrears + forPrincipal);
        if (owed(claim) == 0) {
            paid(claim);
        }
        return forArrears + forPrincipal;
    }

    void programme(int amount, int target, int reviews) {
        argument(amount, 1, 1000000);
        argument(target, -200, 200);
        argument(reviews, 1, 10);
        this.amount = amount;
        this.target = target;
        this.reviews = reviews;
    }

    boolean assure(int lender, boolean isGiven) {
        index(lender, 8);
        boolean isChange = assured[lender] != isGiven;
        assured[lender] = isGiven;
        return isChange;
    }

    int review() {
        state(reviews > 0 && claims < 40);
        int failure = balance < target ? 1 : fundHasArrears() ? 2 : isAssured() ? 0 : 3;
        if (failure == 0) {
            reviews--;
            purse += amount;
            add(FUND, 7, amount, 300, 5, 0, NONE, false, NONE);
        }
        return failure;
    }

    private boolean fundHasArrears() {
        for (int claim = 0; claim < claims; claim++) {
            if (kindOf[claim] == FUND && statusOf[claim] == OPEN && arrearsOf[claim] > 0) {
                return true;
            }
        }
        return false;
    }

    private boolean isAssured() {
        long all = 0;
        long ofAssured = 0;
        for (int claim = 0; claim < claims; claim++) {
            boolean isSuch = kindOf[claim] == CLUB || kindOf[claim] == BANK;
            if (isSuch && statusOf[claim] == OPEN && !hidden[claim]) {
                all += owed(claim);
                ofAssured += assured[lenderOf[claim]] ? owed(claim) : 0;
            }
        }
        return ofAssured * 2 >= all;
    }

    // ---- what is asked

    long value(int claim, int rate) {
        index(claim, claims);
        argument(rate, 0, 1500);
        if (statusOf[claim] != OPEN) {
            return 0;
        }
        return worth(principalOf[claim], couponOf[claim], dueOf[claim], rate) + arrearsOf[claim];
    }

    private long worth(long principal, int coupon, long due, int rate) {
        long worth = 0;
        for (long then = due; then > year; then--) {
            worth = Math.floorDiv((worth + flow(principal, coupon, due, then)) * 10000, 10000 + rate);
        }
        return worth;
    }

    long offered(int claim, int offer, int rate) {
        index(claim, claims);
        index(offer, offers);
        argument(rate, 0, 1500);
        if (statusOf[claim] != OPEN) {
            return 0;
        }
        return worth(principalBy(claim, offer), offerOf[offer][1], year + offerOf[offer][2], rate);
    }

    int effort(int kind) {
        index(kind, 5);
        if (worthBefore[kind] == 0) {
            return 0;
        }
        return (int) (10000 - Math.floorDiv(10000 * worthAfter[kind], worthBefore[kind]));
    }

    boolean areAlike() {
        for (int kind = 0; kind < 5; kind++) {
            if (kind != CLUB && swapped[kind] && effort(CLUB) - effort(kind) > 200) {
                return false;
            }
        }
        return true;
    }

    boolean passes(int offer, int series) {
        index(offer, offers);
        if (series != NONE) {
            index(series, 4);
            return weigh(offer, series, 75);
        }
        for (int each = 0; each < 4; each++) {
            if (votes(offer, each)[0] > 0 && !weigh(offer, each, 50)) {
                return false;
            }
        }
        return weigh(offer, NONE, 66);
    }

    private boolean weigh(int offer, int series, int percent) {
        long[] votes = votes(offer, series);
        return votes[0] > 0 && votes[1] * 100 >= votes[0] * percent;
    }

    /** What is owed of all bonds that may vote, in the series, and what of those with a yes. */
    private long[] votes(int offer, int series) {
        long[] votes = new long[2];
        for (int claim = 0; claim < claims; claim++) {
            if (mayVote(claim) && (series == NONE || seriesOf[claim] == series)) {
                votes[0] += owed(claim);
                votes[1] += yes[offer][claim] ? owed(claim) : 0;
            }
        }
        return votes;
    }

    private long debt() {
        long debt = 0;
        for (int claim = 0; claim < claims; claim++) {
            if (statusOf[claim] == OPEN && !hidden[claim] && lenderOf[claim] != 0) {
                debt += owed(claim);
            }
        }
        return debt;
    }

    boolean isBearable(int years) {
        argument(years, 1, 30);
        long debt = debt();
        long made = output;
        boolean isAbove = false;
        for (int i = 0; i < years; i++) {
            debt += Math.floorDiv(debt * rate, 10000);
            debt -= Math.floorDiv(made * balance, 1000);
            debt = Math.max(debt, 0);
            made += Math.floorDiv(made * growth, 10000);
            isAbove |= debt * 100 > made * 120;
        }
        return !isAbove && Math.floorDiv(debt * 1000000, made) <= Math.floorDiv(debt() * 1000000, output);
    }

    long ofClaim(int claim, int what) {
        index(claim, claims);
        argument(what, 0, 7);
        long[] told = {
            statusOf[claim], principalOf[claim], arrearsOf[claim], dueOf[claim], paidAnew(claim), asideOf[claim],
            suitOf[claim], originOf[claim]
        };
        return told[what];
    }

    long paidAnew(int claim) {
        index(claim, claims);
        long sum = 0;
        for (long payment : paymentsOf.get(claim)) {
            sum += payment;
        }
        return sum;
    }

    long ofState(int what) {
        argument(what, 0, 4);
        return new long[] {year, purse, output, debt(), reviews}[what];
    }

    // ---- what is refused

    private static void index(int number, int count) {
        if (number < 0 || number >= count) {
            throw new IndexOutOfBoundsException();
        }
    }

    private static void argument(int number, int least, int most) {
        if (number < least || number > most) {
            throw new IllegalArgumentException();
        }
    }

    private static void state(boolean isAllowed) {
        if (!isAllowed) {
            throw new IllegalStateException();
        }
    }
}
