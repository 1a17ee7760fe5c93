import java.util.ArrayList;

/**
 * A state that cannot pay, and those to whom it owes. What each call does is promised in the
 * document, ../shared/DOC.md; the sections here stand in its order.
 */
public final class Claimclub {
    public static final int NONE = -1;
    public static final int CLUB = 0;
    public static final int BOND = 1;
    public static final int BANK = 2;
    public static final int SUPPLIER = 3;
    public static final int FUND = 4;
    public static final int OPEN = 0;
    public static final int PAID = 1;
    public static final int SWAPPED = 2;

    private static final int MOST_CLAIMS = 40;
    private static final int MOST_OFFERS = 12;
    private static final int MOST_THINGS = 10;
    private static final int MOST_SUM = 1000000;
    private static final int MOST_COUPON = 1000;
    private static final int MOST_RATE = 1500;
    private static final int MOST_YEARS = 30;
    private static final int LAST_YEAR = 60;
    private static final int LAST_RANK = 2;
    private static final int LAST_SERIES = 3;
    private static final int LAST_LENDER = 7;
    private static final int STATE_ITSELF = 0;
    private static final int WHOLE = 10000;
    private static final int ARREARS_RATE = 500;
    private static final int UNSUED = 0;
    private static final int SUED = 1;
    private static final int JUDGED = 2;

    private final ArrayList<Claim> claims = new ArrayList<>();
    private final ArrayList<Offer> offers = new ArrayList<>();
    private final ArrayList<Thing> things = new ArrayList<>();
    private int now = 0;
    private long purse = 0;
    private long output = 1000000;
    private int growthRate = 0;
    private int balanceRate = 0;
    private int discountRate = 800;
    // Sets of kinds and of lenders are bits of a number: no index to go astray.
    private int moratoria = 0;
    private int assurances = 0;
    private int trancheSize = 0;
    private int balanceTarget = 0;
    private int reviewsLeft = 0;

    public Claimclub() {
    }

    // ---- claims, years

    public int claim(int kind, int lender, int principal, int coupon, int years, int rank, int series,
            boolean isHidden)
            throws IllegalArgumentException, IllegalStateException {
        needRange(kind, CLUB, FUND);
        needRange(lender, STATE_ITSELF, LAST_LENDER);
        needRange(principal, 1, MOST_SUM);
        needRange(coupon, 0, MOST_COUPON);
        needRange(years, 1, MOST_YEARS);
        needRange(rank, 0, LAST_RANK);
        needRange(series, kind == BOND ? 0 : NONE, kind == BOND ? LAST_SERIES : NONE);
        needRoom(1);
        Claim made = new Claim(kind, lender, rank, series, isHidden);
        made.setTerms(principal, coupon, now + years);
        claims.add(made);
        return claims.size() - 1;
    }

    public long pledge(int claim, int cents)
            throws IndexOutOfBoundsException, IllegalArgumentException, IllegalStateException {
        Claim favoured = claimAt(claim);
        needRange(cents, 1, MOST_SUM);
        if (!favoured.isOpen() || purse < cents) {
            throw new IllegalStateException("the claim is not open, or the purse has less");
        }
        purse -= cents;
        favoured.aside += cents;
        return favoured.aside;
    }

    public long reveal(int claim) throws IndexOutOfBoundsException, IllegalStateException {
        Claim shown = claimAt(claim);
        if (!shown.isHidden) {
            throw new IllegalStateException("the claim is not hidden");
        }
        shown.isHidden = false;
        return debt();
    }

    public long economy(int growth, int balance, int cents) throws IllegalArgumentException {
        needRange(growth, -1000, 1000);
        needRange(balance, -200, 200);
        needRange(cents, 0, 10000000);
        growthRate = growth;
        balanceRate = balance;
        purse += cents;
        return purse;
    }

    public boolean moratorium(int kind, boolean isOn) throws IndexOutOfBoundsException {
        needKind(kind);
        int before = moratoria;
        moratoria = withBit(before, kind, isOn);
        return moratoria != before;
    }

    public long year(int years) throws IllegalArgumentException, IllegalStateException {
        needRange(years, 1, 10);
        if (now + years > LAST_YEAR) {
            throw new IllegalStateException("the year would be above the last one");
        }
        long paid = 0;
        for (int gone = 0; gone < years; gone++) {
            paid += passYear();
        }
        return paid;
    }

    private long passYear() {
        purse += broughtBy(output);
        output = grown(output);
        now++;
        judgeSuits();
        long paid = 0;
        for (int rank = 0; rank <= LAST_RANK; rank++) {
            paid += serveRank(rank);
        }
        return paid;
    }

    private long broughtBy(long someOutput) {
        return quotient(someOutput * balanceRate, 1000);
    }

    private long grown(long someOutput) {
        return someOutput + quotient(someOutput * growthRate, WHOLE);
    }

    private void judgeSuits() {
        for (int number = 0; number < claims.size(); number++) {
            Claim judged = claims.get(number);
            if (judged.isOpen() && judged.suit == SUED) {
                judged.suit = JUDGED;
            }
        }
    }

    private long serveRank(int rank) {
        long paid = 0;
        for (int number = 0; number < claims.size(); number++) {
            Claim served = claims.get(number);
            if (served.isOpen() && served.rank == rank) {
                paid += serve(served);
            }
        }
        return paid;
    }

    private long serve(Claim served) {
        long paid = 0;
        if (!served.isOfState()) {
            served.fallDue(now);
            paid = payArrears(served);
        }
        if (served.due <= now && served.arrears == 0) {
            close(served);
        }
        return paid;
    }

    private long payArrears(Claim served) {
        long fromAside = Math.min(served.arrears, served.aside);
        long fromPurse = 0;
        if (purse > 0 && !hasBit(moratoria, served.kind)) {
            fromPurse = Math.min(served.arrears - fromAside, purse);
        }
        served.aside -= fromAside;
        purse -= fromPurse;
        served.receive(fromAside + fromPurse);
        return fromAside + fromPurse;
    }

    private void close(Claim served) {
        served.status = PAID;
        purse += served.aside;
        served.aside = 0;
    }

    // ---- offers, votes

    public int discount(int rate) throws IllegalArgumentException {
        needRange(rate, 0, MOST_RATE);
        int before = discountRate;
        discountRate = rate;
        return before;
    }

    public int offer(int cut, int coupon, int years) throws IllegalArgumentException, IllegalStateException {
        needRange(cut, 0, 99);
        needRange(coupon, 0, MOST_COUPON);
        needRange(years, 1, MOST_YEARS);
        if (offers.size() >= MOST_OFFERS) {
            throw new IllegalStateException("there are as many offers as there may be");
        }
        offers.add(new Offer(cut, coupon, years));
        return offers.size() - 1;
    }

    public int accept(int claim, int offer) throws IndexOutOfBoundsException, IllegalStateException {
        Claim old = claimAt(claim);
        Offer accepted = offerAt(offer);
        if (old.kind == BOND || !old.isOpen()) {
            throw new IllegalStateException("the claim is a bond, or not open");
        }
        needRoom(1);
        swap(old, claim, accepted);
        return claims.size() - 1;
    }

    private void swap(Claim old, int number, Offer terms) {
        Claim fresh = new Claim(old.kind, old.lender, old.rank, old.series, old.isHidden);
        fresh.setTerms(terms.principalFor(old), terms.coupon, now + terms.years);
        fresh.origin = number;
        fresh.worthBefore = old.worth(now, discountRate);
        fresh.worthAfter = fresh.worth(now, discountRate);
        fresh.aside = old.aside;
        old.aside = 0;
        old.status = SWAPPED;
        claims.add(fresh);
    }

    public void vote(int claim, int offer, boolean isYes)
            throws IndexOutOfBoundsException, IllegalStateException {
        Claim voter = claimAt(claim);
        Offer voted = offerAt(offer);
        if (!voter.isVoter()) {
            throw new IllegalStateException("the claim is no bond, is the state's own, or is not open");
        }
        voted.tell(claim, isYes);
    }

    public int settle(int offer) throws IndexOutOfBoundsException, IllegalStateException {
        Offer settled = offerAt(offer);
        int chosenSeries = seriesToSwap(settled);
        int swaps = 0;
        for (int number = 0; number < claims.size(); number++) {
            swaps += isInSeries(claims.get(number), chosenSeries) ? 1 : 0;
        }
        needRoom(swaps);
        // The new claims come behind the old ones, so they are not looked at.
        int oldClaims = claims.size();
        for (int number = 0; number < oldClaims; number++) {
            Claim old = claims.get(number);
            if (isInSeries(old, chosenSeries)) {
                swap(old, number, settled);
            }
        }
        settled.forgetVotes();
        return swaps;
    }

    private int seriesToSwap(Offer settled) {
        boolean isPooled = arePooled(settled);
        int chosen = 0;
        for (int series = 0; series <= LAST_SERIES; series++) {
            chosen = withBit(chosen, series, isPooled || hasMajority(settled, series, 75));
        }
        return chosen;
    }

    private static boolean isInSeries(Claim bond, int chosenSeries) {
        return bond.kind == BOND && bond.isOpen() && hasBit(chosenSeries, bond.series);
    }

    private boolean arePooled(Offer asked) {
        boolean arePooled = hasMajority(asked, NONE, 66);
        for (int series = 0; series <= LAST_SERIES; series++) {
            arePooled = arePooled && (bondsOwed(series) == 0 || hasMajority(asked, series, 50));
        }
        return arePooled;
    }

    private boolean hasMajority(Offer asked, int series, int percent) {
        long all = bondsOwed(series);
        return all > 0 && bondsOwedWithYes(asked, series) * 100 >= percent * all;
    }

    private long bondsOwed(int series) {
        long owed = 0;
        for (int number = 0; number < claims.size(); number++) {
            owed += votingWeight(claims.get(number), series);
        }
        return owed;
    }

    private long bondsOwedWithYes(Offer asked, int series) {
        long owed = 0;
        for (int number = 0; number < claims.size(); number++) {
            owed += asked.hasYesOf(number) ? votingWeight(claims.get(number), series) : 0;
        }
        return owed;
    }

    private static long votingWeight(Claim voter, int series) {
        boolean isCounted = voter.isVoter() && (series == NONE || series == voter.series);
        return isCounted ? voter.owed() : 0;
    }

    // ---- suits, the programme

    public int thing(int worth) throws IllegalArgumentException, IllegalStateException {
        needRange(worth, 1, MOST_SUM);
        if (things.size() >= MOST_THINGS) {
            throw new IllegalStateException("there are as many things as there may be");
        }
        things.add(new Thing(worth));
        return things.size() - 1;
    }

    public void sue(int claim) throws IndexOutOfBoundsException, IllegalStateException {
        Claim suing = claimAt(claim);
        if (!suing.isOpen() || suing.arrears == 0 || suing.suit != UNSUED) {
            throw new IllegalStateException("the claim is not open, has no arrears, or sued");
        }
        suing.suit = SUED;
    }

    public long seize(int claim, int thing) throws IndexOutOfBoundsException, IllegalStateException {
        Claim seizing = claimAt(claim);
        Thing seized = thingAt(thing);
        if (!seizing.isOpen() || seizing.suit != JUDGED || seized.isSeized) {
            throw new IllegalStateException("the claim is not open, or not judged, or the thing was seized");
        }
        long paid = Math.min(seized.worth, seizing.owed());
        seized.isSeized = true;
        seizing.receive(paid);
        purse += seized.worth - paid;
        if (seizing.owed() == 0) {
            close(seizing);
        }
        return paid;
    }

    public void programme(int amount, int target, int reviews) throws IllegalArgumentException {
        needRange(amount, 1, MOST_SUM);
        needRange(target, -200, 200);
        needRange(reviews, 1, 10);
        trancheSize = amount;
        balanceTarget = target;
        reviewsLeft = reviews;
    }

    public boolean assure(int lender, boolean isGiven) throws IndexOutOfBoundsException {
        if (lender < STATE_ITSELF || lender > LAST_LENDER) {
            throw new IndexOutOfBoundsException("there is no such lender");
        }
        int before = assurances;
        assurances = withBit(before, lender, isGiven);
        return assurances != before;
    }

    public int review() throws IllegalStateException {
        if (reviewsLeft == 0) {
            throw new IllegalStateException("there is no programme, or all of its reviews were done");
        }
        needRoom(1);
        int failure = reasonToFail();
        if (failure == 0) {
            payTranche();
        }
        return failure;
    }

    private int reasonToFail() {
        if (balanceRate < balanceTarget) {
            return 1;
        }
        if (hasFundArrears()) {
            return 2;
        }
        return owedToOfficials(true) * 2 < owedToOfficials(false) ? 3 : 0;
    }

    private boolean hasFundArrears() {
        boolean hasArrears = false;
        for (int number = 0; number < claims.size(); number++) {
            Claim looked = claims.get(number);
            hasArrears = hasArrears || looked.kind == FUND && looked.isOpen() && looked.arrears > 0;
        }
        return hasArrears;
    }

    private long owedToOfficials(boolean isOfAssuringOnly) {
        long owed = 0;
        for (int number = 0; number < claims.size(); number++) {
            Claim looked = claims.get(number);
            boolean isCounted = !isOfAssuringOnly || hasBit(assurances, looked.lender);
            owed += isCounted && looked.isOfficial() ? looked.owed() : 0;
        }
        return owed;
    }

    private void payTranche() {
        Claim made = new Claim(FUND, LAST_LENDER, 0, NONE, false);
        made.setTerms(trancheSize, 300, now + 5);
        claims.add(made);
        purse += trancheSize;
        reviewsLeft--;
    }

    // ---- what is asked

    public long value(int claim, int rate) throws IndexOutOfBoundsException, IllegalArgumentException {
        Claim asked = claimAt(claim);
        needRange(rate, 0, MOST_RATE);
        return asked.worth(now, rate);
    }

    public long offered(int claim, int offer, int rate)
            throws IndexOutOfBoundsException, IllegalArgumentException {
        Claim asked = claimAt(claim);
        Offer terms = offerAt(offer);
        needRange(rate, 0, MOST_RATE);
        return asked.isOpen() ? discounted(terms.principalFor(asked), terms.coupon, terms.years, rate) : 0;
    }

    public int effort(int kind) throws IndexOutOfBoundsException {
        needKind(kind);
        return effortOf(kind);
    }

    private int effortOf(int kind) {
        long before = 0;
        long after = 0;
        for (int number = 0; number < claims.size(); number++) {
            Claim fresh = claims.get(number);
            if (fresh.kind == kind) {
                before += fresh.worthBefore;
                after += fresh.worthAfter;
            }
        }
        return before == 0 ? 0 : (int) (WHOLE - quotient(WHOLE * after, before));
    }

    public boolean areAlike() {
        boolean areAlike = true;
        for (int kind = BOND; kind <= FUND; kind++) {
            areAlike = areAlike && !(wasSwapped(kind) && effortOf(CLUB) - effortOf(kind) > 200);
        }
        return areAlike;
    }

    private boolean wasSwapped(int kind) {
        boolean wasSwapped = false;
        for (int number = 0; number < claims.size(); number++) {
            Claim looked = claims.get(number);
            wasSwapped = wasSwapped || looked.kind == kind && looked.status == SWAPPED;
        }
        return wasSwapped;
    }

    public boolean passes(int offer, int series) throws IndexOutOfBoundsException {
        Offer asked = offerAt(offer);
        if (series != NONE && (series < 0 || series > LAST_SERIES)) {
            throw new IndexOutOfBoundsException("there is no such series");
        }
        return series == NONE ? arePooled(asked) : hasMajority(asked, series, 75);
    }

    public boolean isBearable(int years) throws IllegalArgumentException {
        needRange(years, 1, MOST_YEARS);
        long owed = debt();
        long made = output;
        for (int gone = 0; gone < years; gone++) {
            long more = quotient(owed * discountRate, WHOLE);
            owed = Math.max(owed + more - broughtBy(made), 0);
            made = grown(made);
            if (owed * 100 > made * 120) {
                return false;
            }
        }
        return burden(owed, made) <= burden(debt(), output);
    }

    private static long burden(long owed, long made) {
        return quotient(owed * 1000000, made);
    }

    private long debt() {
        long owed = 0;
        for (int number = 0; number < claims.size(); number++) {
            Claim looked = claims.get(number);
            boolean isCounted = looked.isOpen() && !looked.isHidden && !looked.isOfState();
            owed += isCounted ? looked.owed() : 0;
        }
        return owed;
    }

    public long ofClaim(int claim, int what) throws IndexOutOfBoundsException, IllegalArgumentException {
        Claim asked = claimAt(claim);
        switch (what) {
            case 0:
                return asked.status;
            case 1:
                return asked.principal;
            case 2:
                return asked.arrears;
            case 3:
                return asked.due;
            case 4:
                return asked.paid;
            case 5:
                return asked.aside;
            case 6:
                return asked.suit;
            case 7:
                return asked.origin;
            default:
                throw new IllegalArgumentException("nothing of a claim is told by that number");
        }
    }

    public long paidAnew(int claim) throws IndexOutOfBoundsException {
        return claimAt(claim).paymentsAdded();
    }

    public long ofState(int what) throws IllegalArgumentException {
        switch (what) {
            case 0:
                return now;
            case 1:
                return purse;
            case 2:
                return output;
            case 3:
                return debt();
            case 4:
                return reviewsLeft;
            default:
                throw new IllegalArgumentException("nothing of the state is told by that number");
        }
    }

    // ---- what several calls use

    private Claim claimAt(int number) {
        if (number < 0 || number >= claims.size()) {
            throw new IndexOutOfBoundsException("there is no such claim");
        }
        return claims.get(number);
    }

    private Offer offerAt(int number) {
        if (number < 0 || number >= offers.size()) {
            throw new IndexOutOfBoundsException("there is no such offer");
        }
        return offers.get(number);
    }

    private Thing thingAt(int number) {
        if (number < 0 || number >= things.size()) {
            throw new IndexOutOfBoundsException("there is no such thing");
        }
        return things.get(number);
    }

    private void needRoom(int more) {
        if (claims.size() + more > MOST_CLAIMS) {
            throw new IllegalStateException("there would be more claims than there may be");
        }
    }

    private static void needKind(int kind) {
        if (kind < CLUB || kind > FUND) {
            throw new IndexOutOfBoundsException("there is no such kind");
        }
    }

    private static void needRange(int number, int least, int most) {
        if (number < least || number > most) {
            throw new IllegalArgumentException("an argument is out of range");
        }
    }

    private static boolean hasBit(long bits, int place) {
        return (bits >> place & 1) == 1;
    }

    private static int withBit(int bits, int place, boolean isSet) {
        return isSet ? bits | 1 << place : bits & ~(1 << place);
    }

    // No divisor of the document's is ever 0; the test keeps the machine from throwing all the same.
    private static long quotient(long dividend, long divisor) {
        return divisor == 0 ? 0 : Math.floorDiv(dividend, divisor);
    }

    private static long couponOf(long principal, int coupon) {
        return quotient(principal * coupon, WHOLE);
    }

    private static long discounted(long principal, int coupon, int years, int rate) {
        long worth = 0;
        long flow = principal + couponOf(principal, coupon);
        for (int left = years; left > 0; left--) {
            worth = quotient((worth + flow) * WHOLE, WHOLE + rate);
            flow = couponOf(principal, coupon);
        }
        return worth;
    }

    private static final class Claim {
        // At most one payment comes in each year, and one by each thing.
        private static final int MOST_PAYMENTS = LAST_YEAR + MOST_THINGS;

        final int kind;
        final int lender;
        final int rank;
        final int series;
        boolean isHidden;
        long principal = 0;
        int coupon = 0;
        int due = 0;
        int status = OPEN;
        long arrears = 0;
        long aside = 0;
        int suit = UNSUED;
        int origin = NONE;
        // What the claim from which this one was swapped, and this one, were worth right then.
        long worthBefore = 0;
        long worthAfter = 0;
        long paid = 0;
        private final long[] payments = new long[MOST_PAYMENTS];
        private int paymentCount = 0;

        Claim(int kind, int lender, int rank, int series, boolean isHidden) {
            this.kind = kind;
            this.lender = lender;
            this.rank = rank;
            this.series = series;
            this.isHidden = isHidden;
        }

        void setTerms(long newPrincipal, int newCoupon, int newDue) {
            principal = newPrincipal;
            coupon = newCoupon;
            due = newDue;
        }

        boolean isOpen() {
            return status == OPEN;
        }

        boolean isOfState() {
            return lender == STATE_ITSELF;
        }

        boolean isVoter() {
            return kind == BOND && isOpen() && !isOfState();
        }

        boolean isOfficial() {
            return (kind == CLUB || kind == BANK) && isOpen() && !isHidden;
        }

        long owed() {
            return principal + arrears;
        }

        void fallDue(int year) {
            arrears += quotient(arrears * ARREARS_RATE, WHOLE);
            if (year <= due) {
                arrears += couponOf(principal, coupon);
            }
            if (year == due) {
                arrears += principal;
                principal = 0;
            }
        }

        void receive(long cents) {
            long toArrears = Math.min(cents, arrears);
            arrears -= toArrears;
            principal -= cents - toArrears;
            paid += cents;
            if (paymentCount < payments.length) {
                payments[paymentCount] = cents;
                paymentCount++;
            }
        }

        long paymentsAdded() {
            long sum = 0;
            for (long cents : payments) {
                sum += cents;
            }
            return sum;
        }

        long worth(int year, int rate) {
            return isOpen() ? discounted(principal, coupon, due - year, rate) + arrears : 0;
        }
    }

    private static final class Offer {
        final int cut;
        final int coupon;
        final int years;
        // The claims with a yes, as bits: a no, and no vote, count alike.
        private long yeses = 0;

        Offer(int cut, int coupon, int years) {
            this.cut = cut;
            this.coupon = coupon;
            this.years = years;
        }

        long principalFor(Claim old) {
            return quotient(old.owed() * (100 - cut), 100);
        }

        void tell(int claim, boolean isYes) {
            yeses = isYes ? yeses | 1L << claim : yeses & ~(1L << claim);
        }

        boolean hasYesOf(int claim) {
            return hasBit(yeses, claim);
        }

        void forgetVotes() {
            yeses = 0;
        }
    }

    private static final class Thing {
        final int worth;
        boolean isSeized = false;

        Thing(int worth) {
            this.worth = worth;
        }
    }
}
