/**
 * A house of tickets for journeys by many carriers: what each call promises stands in
 * ../shared/DOC.md, and the part of Java that is used here in ../shared/LANGUAGE.md.
 *
 * <p>The public calls test what they are given, throw what is due before anything changes, and
 * leave the work to the small classes further down. A row that may not exist comes as null, so
 * that asking for it and testing its number are one step.
 */
public final class Proratehouse {

    public static final int NONE = -1;

    public static final int OPEN = 0, FLOWN = 1, VOID = 2, REFUNDED = 3, EXCHANGED = 4;

    public static final int WAITS = 0, PAID = 1, BACK = 2, RETURNED = 3, CLOSED = 4;

    private static final int PLACES = 10;
    private static final int CARRIERS = 5;
    private static final int LAST_DAY = 999;
    private static final int MOST_DAYS_AT_ONCE = 100;
    private static final int MOST_MILES = 9999;
    private static final int MOST_WEIGHT = 9999;
    private static final int MOST_CENTS = 1000000;
    private static final int MOST_TAX = 10000;
    private static final int MOST_UNIT = 1000;
    private static final int MOST_STOPS = 7;
    private static final int MOST_FARES = 40;
    private static final int MOST_LEGS = 8;
    private static final int MOST_POINTS = MOST_LEGS + 1;
    private static final int MOST_TICKETS = 30;
    private static final int MOST_BILLS = MOST_TICKETS * MOST_LEGS;

    private static final int WHOLE = 100;
    private static final int ALLOWED_HUNDREDTHS = 120;
    private static final int MOST_SURCHARGE = 25;
    private static final int SURCHARGE_STEP = 5;
    private static final int CLOSING_REJECTION = 3;

    private static final int NO_FARE = -1;
    private static final int TOO_MANY_STOPS = -2;
    private static final int TOO_FAR = -3;

    private final Tariff tariff = new Tariff();
    private final Proration proration = new Proration();
    private final Journey journey = new Journey();
    private final Ways ways = new Ways();
    private final Clearing clearing = new Clearing();
    private final Ticket[] tickets = new Ticket[MOST_TICKETS];
    private final long[] carrierCash = new long[CARRIERS];
    private final long[] stateCash = new long[PLACES];
    private int ticketCount;
    private int penaltyHundredths;
    private long buyersPaid;

    public Proratehouse() {
    }

    // ---- miles, fares, taxes

    public int miles(int one, int other, int miles)
            throws IndexOutOfBoundsException, IllegalArgumentException {
        if (!isPlace(one) || !isPlace(other)) {
            throw new IndexOutOfBoundsException("no such place");
        }
        if (one == other || !isWithin(miles, 1, MOST_MILES)) {
            throw new IllegalArgumentException("the same place twice, or miles out of range");
        }
        return tariff.miles.put(one, other, miles);
    }

    public int fare(int from, int to, int cents, int first, int last, int stops)
            throws IndexOutOfBoundsException, IllegalArgumentException, IllegalStateException {
        if (!isPlace(from) || !isPlace(to)) {
            throw new IndexOutOfBoundsException("no such place");
        }
        if (from == to || !isWithin(cents, 1, MOST_CENTS) || !isWithin(first, 0, LAST_DAY)
                || !isWithin(last, first, LAST_DAY) || !isWithin(stops, 0, MOST_STOPS)) {
            throw new IllegalArgumentException("the same place twice, or out of range");
        }
        if (tariff.fareCount >= MOST_FARES) {
            throw new IllegalStateException("no more fares can be filed");
        }
        return tariff.file(new Fare(from, to, cents, first, last, stops));
    }

    public void withdraw(int fare) throws IndexOutOfBoundsException, IllegalStateException {
        Fare filed = tariff.fareAt(fare);
        if (filed == null) {
            throw new IndexOutOfBoundsException("no such fare");
        }
        if (filed.isWithdrawn) {
            throw new IllegalStateException("the fare was withdrawn");
        }
        filed.isWithdrawn = true;
    }

    public int unit(int unit) throws IllegalArgumentException {
        if (!isWithin(unit, 1, MOST_UNIT)) {
            throw new IllegalArgumentException("unit out of range");
        }
        int before = tariff.unit;
        tariff.unit = unit;
        return before;
    }

    public void tax(int place, int departs, int changes)
            throws IndexOutOfBoundsException, IllegalArgumentException {
        if (!isPlace(place)) {
            throw new IndexOutOfBoundsException("no such place");
        }
        if (!isWithin(departs, 0, MOST_TAX) || !isWithin(changes, 0, MOST_TAX)) {
            throw new IllegalArgumentException("tax out of range");
        }
        tariff.putTaxes(place, departs, changes);
    }

    public int weight(int one, int other, int weight)
            throws IndexOutOfBoundsException, IllegalArgumentException {
        if (!isPlace(one) || !isPlace(other)) {
            throw new IndexOutOfBoundsException("no such place");
        }
        if (one == other || !isWithin(weight, 0, MOST_WEIGHT)) {
            throw new IllegalArgumentException("the same place twice, or weight out of range");
        }
        return proration.weights.put(one, other, weight);
    }

    public int proviso(int carrier, int from, int to, int cents)
            throws IndexOutOfBoundsException, IllegalArgumentException {
        if (!isCarrier(carrier) || !isPlace(from) || !isPlace(to)) {
            throw new IndexOutOfBoundsException("no such carrier or place");
        }
        if (from == to || cents != NONE && !isWithin(cents, 0, MOST_CENTS)) {
            throw new IllegalArgumentException("the same place twice, or cents out of range");
        }
        return proration.putProviso(carrier, from, to, cents);
    }

    public int penalty(int hundredths) throws IllegalArgumentException {
        if (!isWithin(hundredths, 0, WHOLE)) {
            throw new IllegalArgumentException("hundredths out of range");
        }
        int before = penaltyHundredths;
        penaltyHundredths = hundredths;
        return before;
    }

    // ---- journeys

    public int leg(int from, int to, int carrier, int day)
            throws IndexOutOfBoundsException, IllegalArgumentException, IllegalStateException {
        if (!isPlace(from) || !isPlace(to) || !isCarrier(carrier)) {
            throw new IndexOutOfBoundsException("no such place or carrier");
        }
        if (from == to || !isWithin(day, tariff.today, LAST_DAY)) {
            throw new IllegalArgumentException("the same place twice, or day out of range");
        }
        if (!journey.goesOn(from, day) || tariff.miles.get(from, to) == 0) {
            throw new IllegalStateException("the journey does not go on by this leg");
        }
        return journey.add(from, to, carrier, day);
    }

    public int wipe() {
        return journey.beginAnew();
    }

    public int part(int from, int to) throws IndexOutOfBoundsException, IllegalArgumentException {
        if (!journey.isPoint(from) || !journey.isPoint(to)) {
            throw new IndexOutOfBoundsException("no such point");
        }
        if (to <= from) {
            throw new IllegalArgumentException("a part ends at a later point");
        }
        return journey.priceOfPart(tariff, from, to);
    }

    public int price() {
        ways.findLeast(journey, tariff);
        return ways.leastSum;
    }

    public int priceAnew() {
        return ways.leastOfAllSets(journey, tariff);
    }

    public int cuts() {
        ways.findLeast(journey, tariff);
        return ways.leastCuts;
    }

    // ---- tickets

    public int issue(int carrier) throws IndexOutOfBoundsException, IllegalStateException {
        if (!isCarrier(carrier)) {
            throw new IndexOutOfBoundsException("no such carrier");
        }
        ways.findLeast(journey, tariff);
        if (!canBeIssued()) {
            throw new IllegalStateException("no ticket can be issued for the journey");
        }
        Ticket ticket = issued(carrier);
        receive(ticket, ticket.price + ticket.taxes);
        return ticketCount - 1;
    }

    public int fly(int ticket, int coupon) throws IndexOutOfBoundsException, IllegalStateException {
        Ticket held = ticketAt(ticket);
        Coupon flown = held == null ? null : held.couponAt(coupon);
        if (held == null || flown == null) {
            throw new IndexOutOfBoundsException("no such ticket or coupon");
        }
        if (flown.status != OPEN || flown.day > tariff.today) {
            throw new IllegalStateException("the coupon is not OPEN, or its day is to come");
        }
        flown.status = FLOWN;
        held.turnOpenOnes(coupon, VOID);
        addCash(held.issuer, -flown.tax);
        if (isPlace(flown.from)) {
            stateCash[flown.from] += flown.tax;
        }
        if (flown.carrier != held.issuer) {
            flown.bill = clearing.addBill(held.issuer, flown.carrier, flown.share);
        }
        return flown.bill;
    }

    public int endorse(int ticket, int coupon, int carrier)
            throws IndexOutOfBoundsException, IllegalStateException {
        Ticket held = ticketAt(ticket);
        Coupon endorsed = held == null ? null : held.couponAt(coupon);
        if (endorsed == null || !isCarrier(carrier)) {
            throw new IndexOutOfBoundsException("no such ticket, coupon or carrier");
        }
        if (endorsed.status != OPEN || endorsed.carrier == carrier) {
            throw new IllegalStateException("the coupon is not OPEN, or is by that carrier");
        }
        int before = endorsed.carrier;
        endorsed.carrier = carrier;
        return before;
    }

    public int refund(int ticket) throws IndexOutOfBoundsException, IllegalStateException {
        Ticket held = ticketAt(ticket);
        if (held == null) {
            throw new IndexOutOfBoundsException("no such ticket");
        }
        if (!held.hasOpenOnes()) {
            throw new IllegalStateException("the ticket has no OPEN coupon");
        }
        int shares = held.openShares();
        int kept = (int) (((long) shares * penaltyHundredths + WHOLE - 1) / WHOLE);
        int given = shares - kept + held.openTaxes();
        held.turnOpenOnes(held.count, REFUNDED);
        receive(held, -given);
        return given;
    }

    public int reissue(int ticket) throws IndexOutOfBoundsException, IllegalStateException {
        Ticket held = ticketAt(ticket);
        if (held == null) {
            throw new IndexOutOfBoundsException("no such ticket");
        }
        ways.findLeast(journey, tariff);
        if (!held.hasOpenOnes() || !canBeIssued()) {
            throw new IllegalStateException("the ticket can't be reissued for the journey");
        }
        int given = held.openShares() + held.openTaxes();
        held.turnOpenOnes(held.count, EXCHANGED);
        Ticket anew = issued(held.issuer);
        int due = anew.price + anew.taxes - given;
        receive(anew, due);
        return due;
    }

    public int pass(int days) throws IllegalArgumentException, IllegalStateException {
        if (!isWithin(days, 1, MOST_DAYS_AT_ONCE)) {
            throw new IllegalArgumentException("days out of range");
        }
        if (tariff.today + days > LAST_DAY) {
            throw new IllegalStateException("there is no such day");
        }
        tariff.today += days;
        return tariff.today;
    }

    // ---- clearing

    public long clear() {
        clearing.settle();
        moveNets();
        return clearing.sumOfNetsAboveZero();
    }

    public int reject(int bill) throws IndexOutOfBoundsException, IllegalStateException {
        Bill rejected = clearing.billAt(bill);
        if (rejected == null) {
            throw new IndexOutOfBoundsException("no such bill");
        }
        if (rejected.status != PAID || rejected.settledBy < clearing.number - 1) {
            throw new IllegalStateException("the bill is not PAID, or by an earlier clearing");
        }
        rejected.status = BACK;
        rejected.rejections++;
        return rejected.rejections;
    }

    public void rebill(int bill) throws IndexOutOfBoundsException, IllegalStateException {
        Bill billed = clearing.billAt(bill);
        if (billed == null) {
            throw new IndexOutOfBoundsException("no such bill");
        }
        if (billed.status != RETURNED) {
            throw new IllegalStateException("the bill is not RETURNED");
        }
        billed.status = WAITS;
    }

    public int fails(int carrier, boolean isIn) throws IndexOutOfBoundsException {
        if (!isCarrier(carrier)) {
            throw new IndexOutOfBoundsException("no such carrier");
        }
        boolean wasIn = clearing.isInDefault(carrier);
        clearing.putDefault(carrier, isIn);
        if (wasIn || !isIn) {
            return 0;
        }
        int undone = clearing.undo(carrier);
        moveNets();
        return undone;
    }

    // ---- what is asked

    public int ofTicket(int ticket, int what)
            throws IndexOutOfBoundsException, IllegalArgumentException {
        Ticket asked = ticketAt(ticket);
        if (asked == null) {
            throw new IndexOutOfBoundsException("no such ticket");
        }
        switch (what) {
            case 0: return asked.price;
            case 1: return asked.taxes;
            case 2: return asked.issuer;
            case 3: return asked.count;
            case 4: return asked.cutPoints;
            case 5: return asked.unshared;
            default: throw new IllegalArgumentException("what is out of range");
        }
    }

    public int ofCoupon(int ticket, int coupon, int what)
            throws IndexOutOfBoundsException, IllegalArgumentException {
        Ticket held = ticketAt(ticket);
        Coupon asked = held == null ? null : held.couponAt(coupon);
        if (asked == null) {
            throw new IndexOutOfBoundsException("no such ticket or coupon");
        }
        switch (what) {
            case 0: return asked.status;
            case 1: return asked.share;
            case 2: return asked.tax;
            case 3: return asked.carrier;
            case 4: return asked.day;
            case 5: return asked.bill;
            default: throw new IllegalArgumentException("what is out of range");
        }
    }

    public int ofBill(int bill, int what)
            throws IndexOutOfBoundsException, IllegalArgumentException {
        Bill asked = clearing.billAt(bill);
        if (asked == null) {
            throw new IndexOutOfBoundsException("no such bill");
        }
        switch (what) {
            case 0: return asked.status;
            case 1: return asked.amount;
            case 2: return asked.payer;
            case 3: return asked.payee;
            case 4: return asked.rejections;
            case 5: return asked.settledBy;
            default: throw new IllegalArgumentException("what is out of range");
        }
    }

    public long cash(int carrier) throws IndexOutOfBoundsException {
        if (!isCarrier(carrier)) {
            throw new IndexOutOfBoundsException("no such carrier");
        }
        return carrierCash[carrier];
    }

    public long cashAnew(int carrier) throws IndexOutOfBoundsException {
        if (!isCarrier(carrier)) {
            throw new IndexOutOfBoundsException("no such carrier");
        }
        long sum = clearing.gotBy(carrier);
        for (int k = 0; k < ticketCount; k++) {
            Ticket ticket = ticketAt(k);
            if (ticket != null && ticket.issuer == carrier) {
                sum += ticket.received - ticket.flownTaxes();
            }
        }
        return sum;
    }

    public long state(int place) throws IndexOutOfBoundsException {
        if (!isPlace(place)) {
            throw new IndexOutOfBoundsException("no such place");
        }
        return stateCash[place];
    }

    public long paid() {
        return buyersPaid;
    }

    public int of(int what) throws IllegalArgumentException {
        switch (what) {
            case 0: return tariff.today;
            case 1: return journey.count;
            case 2: return ticketCount;
            case 3: return clearing.count;
            case 4: return clearing.number;
            case 5: return clearing.inDefault;
            default: throw new IllegalArgumentException("what is out of range");
        }
    }

    // ---- what the calls share

    private static boolean isWithin(int number, int least, int most) {
        return number >= least && number <= most;
    }

    private static boolean isPlace(int place) {
        return place >= 0 && place < PLACES;
    }

    private static boolean isCarrier(int carrier) {
        return carrier >= 0 && carrier < CARRIERS;
    }

    private Ticket ticketAt(int number) {
        boolean isThere = number >= 0 && number < ticketCount && number < MOST_TICKETS;
        return isThere ? tickets[number] : null;
    }

    /** Looks at the way that was found last, so the least way has to be found ahead of it. */
    private boolean canBeIssued() {
        return ways.leastSum != NONE && !journey.hasLegBefore(tariff.today)
                && ticketCount < MOST_TICKETS;
    }

    /** Issues by the way that was found last; money is moved by the caller. */
    private Ticket issued(int carrier) {
        Ticket ticket = new Ticket(carrier, ways.leastSum, ways.leastCuts);
        for (int k = 0; k < journey.count; k++) {
            Leg leg = journey.legAt(k);
            if (leg != null) {
                ticket.add(new Coupon(leg, tariff.taxAt(leg.from, k == 0 || journey.isStop(k))));
            }
        }
        shareOut(ticket);
        if (ticketCount < MOST_TICKETS) {
            tickets[ticketCount] = ticket;
            ticketCount++;
        }
        journey.beginAnew();
        return ticket;
    }

    private void shareOut(Ticket ticket) {
        int start = 0;
        for (int point = 1; point <= ticket.count; point++) {
            if (point == ticket.count || (ticket.cutPoints >> point & 1) == 1) {
                int sum = journey.priceOfPart(tariff, start, point);
                ticket.unshared += proration.share(ticket, start, point, sum, tariff.miles);
                start = point;
            }
        }
    }

    private void receive(Ticket ticket, int cents) {
        ticket.received += cents;
        buyersPaid += cents;
        addCash(ticket.issuer, cents);
    }

    private void addCash(int carrier, long cents) {
        if (isCarrier(carrier)) {
            carrierCash[carrier] += cents;
        }
    }

    private void moveNets() {
        for (int carrier = 0; carrier < CARRIERS; carrier++) {
            addCash(carrier, clearing.netOf(carrier));
        }
    }

    // ---- the parts of the house

    /** A number for each pair of places, the same both ways; 0 for a pair without. */
    private static final class Pairs {
        private final int[] numbers = new int[PLACES * PLACES];

        int get(int one, int other) {
            return isPlace(one) && isPlace(other) ? numbers[one * PLACES + other] : 0;
        }

        int put(int one, int other, int number) {
            int before = get(one, other);
            if (isPlace(one) && isPlace(other)) {
                numbers[one * PLACES + other] = number;
                numbers[other * PLACES + one] = number;
            }
            return before;
        }
    }

    private static final class Fare {
        final int from;
        final int to;
        final int cents;
        final int first;
        final int last;
        final int stops;
        boolean isWithdrawn;

        Fare(int from, int to, int cents, int first, int last, int stops) {
            this.from = from;
            this.to = to;
            this.cents = cents;
            this.first = first;
            this.last = last;
            this.stops = stops;
        }

        boolean isFor(int start, int end, int day) {
            return from == start && to == end && !isWithdrawn && first <= day && day <= last;
        }
    }

    /** What is told of places: miles, fares and taxes, and the day on which they are looked up. */
    private static final class Tariff {
        final Pairs miles = new Pairs();
        private final Fare[] fares = new Fare[MOST_FARES];
        private final int[] departTaxes = new int[PLACES];
        private final int[] changeTaxes = new int[PLACES];
        int fareCount;
        int unit = 1;
        int today;

        int file(Fare fare) {
            if (fareCount >= MOST_FARES) {
                return NONE;
            }
            fares[fareCount] = fare;
            fareCount++;
            return fareCount - 1;
        }

        Fare fareAt(int number) {
            boolean isThere = number >= 0 && number < fareCount && number < MOST_FARES;
            return isThere ? fares[number] : null;
        }

        void putTaxes(int place, int departs, int changes) {
            if (isPlace(place)) {
                departTaxes[place] = departs;
                changeTaxes[place] = changes;
            }
        }

        int taxAt(int place, boolean departs) {
            if (!isPlace(place)) {
                return 0;
            }
            return departs ? departTaxes[place] : changeTaxes[place];
        }

        /** The lowest fare in force today that allows the stops, NONE without; 0 stops: any fare. */
        int lowestFare(int from, int to, int stops) {
            int lowest = NONE;
            for (int k = 0; k < fareCount; k++) {
                Fare fare = fareAt(k);
                if (fare != null && fare.isFor(from, to, today) && fare.stops >= stops
                        && (lowest == NONE || fare.cents < lowest)) {
                    lowest = fare.cents;
                }
            }
            return lowest;
        }

        /** The hundredths by which a fare is more for the miles; NONE if there are too many. */
        int surcharge(int from, int to, int milesOfLegs) {
            int direct = miles.get(from, to);
            if (direct == 0) {
                return NONE;
            }
            int allowed = direct * ALLOWED_HUNDREDTHS / WHOLE;
            for (int more = 0; more <= MOST_SURCHARGE; more += SURCHARGE_STEP) {
                if (allowed * (WHOLE + more) / WHOLE >= milesOfLegs) {
                    return more;
                }
            }
            return NONE;
        }

        /** Rounds once, at the end: a fare is not rounded to cents ahead of it. */
        int roundedUp(int cents, int more) {
            long parts = (long) cents * (WHOLE + more);
            long step = (long) WHOLE * unit;
            return step > 0 ? (int) ((parts + step - 1) / step * unit) : cents;
        }
    }

    private static final class Leg {
        int from;
        int to;
        int carrier;
        int day;
    }

    /** The legs as they follow one another; their rows are made once and used again. */
    private static final class Journey {
        private final Leg[] legs = new Leg[MOST_LEGS];
        int count;

        Journey() {
            for (int k = 0; k < MOST_LEGS; k++) {
                legs[k] = new Leg();
            }
        }

        Leg legAt(int number) {
            return number >= 0 && number < count && number < MOST_LEGS ? legs[number] : null;
        }

        boolean goesOn(int from, int day) {
            Leg latest = legAt(count - 1);
            return count < MOST_LEGS && (latest == null || latest.to == from && latest.day <= day);
        }

        int add(int from, int to, int carrier, int day) {
            Leg leg = count < MOST_LEGS ? legs[count] : null;
            if (leg != null) {
                leg.from = from;
                leg.to = to;
                leg.carrier = carrier;
                leg.day = day;
                count++;
            }
            return count;
        }

        int beginAnew() {
            int before = count;
            count = 0;
            return before;
        }

        boolean hasLegBefore(int day) {
            Leg first = legAt(0);
            return first != null && first.day < day;
        }

        boolean isPoint(int point) {
            return count > 0 && isWithin(point, 0, count);
        }

        int placeAt(int point) {
            Leg leg = legAt(point == 0 ? 0 : point - 1);
            if (leg == null) {
                return NONE;
            }
            return point == 0 ? leg.from : leg.to;
        }

        boolean isStop(int point) {
            Leg ahead = legAt(point - 1);
            Leg behind = legAt(point);
            return ahead != null && behind != null && behind.day > ahead.day;
        }

        /** The price of a part, or why there is none, below 0. */
        int priceOfPart(Tariff tariff, int from, int to) {
            int start = placeAt(from);
            int end = placeAt(to);
            if (tariff.lowestFare(start, end, 0) == NONE) {
                return NO_FARE;
            }
            int lowest = tariff.lowestFare(start, end, stopsBetween(from, to));
            if (lowest == NONE) {
                return TOO_MANY_STOPS;
            }
            int more = tariff.surcharge(start, end, milesOfLegs(tariff.miles, from, to));
            if (more == NONE) {
                return TOO_FAR;
            }
            return tariff.roundedUp(Math.max(lowest, highestBetween(tariff, from, to)), more);
        }

        private int stopsBetween(int from, int to) {
            int stops = 0;
            for (int point = from + 1; point < to; point++) {
                if (isStop(point)) {
                    stops++;
                }
            }
            return stops;
        }

        private int milesOfLegs(Pairs miles, int from, int to) {
            int sum = 0;
            for (int k = from; k < to; k++) {
                Leg leg = legAt(k);
                if (leg != null) {
                    sum += miles.get(leg.from, leg.to);
                }
            }
            return sum;
        }

        /** The greatest of the lowest fares to points between both; NONE without such. */
        private int highestBetween(Tariff tariff, int from, int to) {
            int highest = NONE;
            for (int point = from + 1; point < to; point++) {
                highest = Math.max(highest, tariff.lowestFare(placeAt(from), placeAt(point), 0));
            }
            return highest;
        }
    }

    /** Puts a journey together by parts, in two manners that know nothing of each other. */
    private static final class Ways {
        private final int[] sumsTo = new int[MOST_POINTS];
        private final int[] cutsTo = new int[MOST_POINTS];
        private final int[] partPrices = new int[MOST_POINTS * MOST_POINTS];
        int leastSum = NONE;
        int leastCuts = NONE;

        /**
         * Goes from point to point. With the last cut given, the lowest cuts ahead of it make the
         * lowest number, so the best way to each point is enough to know; and as a later last cut
         * makes a greater number, the first one of the same sums stays.
         */
        void findLeast(Journey journey, Tariff tariff) {
            leastSum = NONE;
            leastCuts = NONE;
            if (journey.count < 1 || journey.count >= MOST_POINTS) {
                return;
            }
            sumsTo[0] = 0;
            cutsTo[0] = 0;
            for (int to = 1; to <= journey.count; to++) {
                sumsTo[to] = NONE;
                cutsTo[to] = NONE;
                for (int from = 0; from < to; from++) {
                    goOn(from, to, journey.priceOfPart(tariff, from, to));
                }
            }
            leastSum = sumsTo[journey.count];
            leastCuts = cutsTo[journey.count];
        }

        private void goOn(int from, int to, int cents) {
            if (!isWithin(from, 0, MOST_LEGS) || !isWithin(to, 0, MOST_LEGS)) {
                return;
            }
            if (cents < 0 || sumsTo[from] == NONE) {
                return;
            }
            int sum = sumsTo[from] + cents;
            if (sumsTo[to] == NONE || sum < sumsTo[to]) {
                sumsTo[to] = sum;
                cutsTo[to] = from == 0 ? 0 : cutsTo[from] | 1 << from;
            }
        }

        int leastOfAllSets(Journey journey, Tariff tariff) {
            int end = journey.count;
            if (end < 1 || end >= MOST_POINTS) {
                return NONE;
            }
            for (int from = 0; from < end; from++) {
                for (int to = from + 1; to <= end; to++) {
                    partPrices[from * MOST_POINTS + to] = journey.priceOfPart(tariff, from, to);
                }
            }
            int least = NONE;
            for (int set = 0; set < 1 << end; set += 2) {
                int sum = sumOfSet(set, end);
                if (sum != NONE && (least == NONE || sum < least)) {
                    least = sum;
                }
            }
            return least;
        }

        private int sumOfSet(int set, int end) {
            int sum = 0;
            int start = 0;
            for (int point = 1; point <= end; point++) {
                if (point == end || (set >> point & 1) == 1) {
                    int index = start * MOST_POINTS + point;
                    int cents = index < partPrices.length ? partPrices[index] : NONE;
                    if (cents < 0) {
                        return NONE;
                    }
                    sum += cents;
                    start = point;
                }
            }
            return sum;
        }
    }

    private static final class Coupon {
        final int from;
        final int to;
        final int day;
        final int tax;
        int carrier;
        int weight;
        int share;
        int status = OPEN;
        int bill = NONE;

        Coupon(Leg leg, int tax) {
            this.from = leg.from;
            this.to = leg.to;
            this.day = leg.day;
            this.carrier = leg.carrier;
            this.tax = tax;
        }
    }

    private static final class Ticket {
        final int issuer;
        final int price;
        final int cutPoints;
        private final Coupon[] coupons = new Coupon[MOST_LEGS];
        int count;
        int taxes;
        int unshared;
        long received;

        Ticket(int issuer, int price, int cutPoints) {
            this.issuer = issuer;
            this.price = price;
            this.cutPoints = cutPoints;
        }

        void add(Coupon coupon) {
            if (count < MOST_LEGS) {
                coupons[count] = coupon;
                count++;
                taxes += coupon.tax;
            }
        }

        Coupon couponAt(int number) {
            return number >= 0 && number < count && number < MOST_LEGS ? coupons[number] : null;
        }

        private Coupon openAt(int number) {
            Coupon coupon = couponAt(number);
            return coupon != null && coupon.status == OPEN ? coupon : null;
        }

        boolean hasOpenOnes() {
            for (int k = 0; k < count; k++) {
                if (openAt(k) != null) {
                    return true;
                }
            }
            return false;
        }

        int openShares() {
            int sum = 0;
            for (int k = 0; k < count; k++) {
                Coupon coupon = openAt(k);
                sum += coupon == null ? 0 : coupon.share;
            }
            return sum;
        }

        int openTaxes() {
            int sum = 0;
            for (int k = 0; k < count; k++) {
                Coupon coupon = openAt(k);
                sum += coupon == null ? 0 : coupon.tax;
            }
            return sum;
        }

        int flownTaxes() {
            int sum = 0;
            for (int k = 0; k < count; k++) {
                Coupon coupon = couponAt(k);
                sum += coupon != null && coupon.status == FLOWN ? coupon.tax : 0;
            }
            return sum;
        }

        void turnOpenOnes(int ahead, int status) {
            for (int k = 0; k < ahead; k++) {
                Coupon coupon = openAt(k);
                if (coupon != null) {
                    coupon.status = status;
                }
            }
        }
    }

    /** Shares the price of a part by provisos first, and then by weights. */
    private static final class Proration {
        final Pairs weights = new Pairs();
        private final int[] provisos = new int[CARRIERS * PLACES * PLACES];

        Proration() {
            for (int k = 0; k < provisos.length; k++) {
                provisos[k] = NONE;
            }
        }

        int putProviso(int carrier, int from, int to, int cents) {
            int before = provisoOf(carrier, from, to);
            if (isCarrier(carrier) && isPlace(from) && isPlace(to)) {
                provisos[(carrier * PLACES + from) * PLACES + to] = cents;
            }
            return before;
        }

        private int provisoOf(int carrier, int from, int to) {
            if (!isCarrier(carrier) || !isPlace(from) || !isPlace(to)) {
                return NONE;
            }
            return provisos[(carrier * PLACES + from) * PLACES + to];
        }

        private int weightOf(Coupon coupon, Pairs miles) {
            int told = weights.get(coupon.from, coupon.to);
            return told == 0 ? miles.get(coupon.from, coupon.to) : told;
        }

        /** Shares cents by the coupons from first on, ahead of end; returns what is no share. */
        int share(Ticket ticket, int first, int end, int cents, Pairs miles) {
            int left = cents;
            int together = 0;
            for (int k = first; k < end; k++) {
                Coupon coupon = ticket.couponAt(k);
                if (coupon == null) {
                    continue;
                }
                int proviso = provisoOf(coupon.carrier, coupon.from, coupon.to);
                if (proviso == NONE) {
                    coupon.weight = weightOf(coupon, miles);
                    together += coupon.weight;
                } else {
                    coupon.share = Math.min(proviso, left);
                    left -= coupon.share;
                }
            }
            if (together <= 0) {
                return left;
            }
            shareByWeights(ticket, first, end, left, together);
            return 0;
        }

        private void shareByWeights(Ticket ticket, int first, int end, int cents, int together) {
            Coupon last = null;
            int missing = cents;
            for (int k = first; k < end; k++) {
                Coupon coupon = ticket.couponAt(k);
                if (coupon != null && coupon.weight > 0 && together > 0) {
                    coupon.share = (int) ((long) cents * coupon.weight / together);
                    missing -= coupon.share;
                    last = coupon;
                }
            }
            if (last != null) {
                last.share += missing;
            }
        }
    }

    private static final class Bill {
        final int payer;
        final int payee;
        final int amount;
        int status = WAITS;
        int rejections;
        int settledBy;

        Bill(int payer, int payee, int amount) {
            this.payer = payer;
            this.payee = payee;
            this.amount = amount;
        }

        boolean isOf(int carrier) {
            return payer == carrier || payee == carrier;
        }

        boolean isToBeSettled() {
            return status == WAITS || status == BACK;
        }

        /** A rejection or a new billing since makes it one that is to be settled. */
        boolean isAsLeftBy(int clearing) {
            return settledBy == clearing && !isToBeSettled();
        }

        private int amountBack() {
            return rejections >= CLOSING_REJECTION ? amount / 2 : amount;
        }

        /** Returns what goes from the payer to the payee, below 0 what comes back. */
        int settle(int clearing) {
            settledBy = clearing;
            if (status == WAITS) {
                status = PAID;
                return amount;
            }
            status = rejections >= CLOSING_REJECTION ? CLOSED : RETURNED;
            return -amountBack();
        }

        /** Returns what goes from the payer to the payee, below 0 what comes back. */
        int undo() {
            settledBy = 0;
            if (status == PAID) {
                status = WAITS;
                return -amount;
            }
            status = BACK;
            return amountBack();
        }

        /** What the payee has of it as it stands. */
        int gotByPayee() {
            switch (status) {
                case PAID:
                case BACK:
                    return amount;
                case CLOSED:
                    return amount - amount / 2;
                default:
                    return 0;
            }
        }
    }

    /** The bills, and the nets of what was settled or undone latest. */
    private static final class Clearing {
        private final Bill[] bills = new Bill[MOST_BILLS];
        private final long[] nets = new long[CARRIERS];
        int count;
        int number;
        int inDefault;

        int addBill(int payer, int payee, int amount) {
            if (count >= MOST_BILLS) {
                return NONE;
            }
            bills[count] = new Bill(payer, payee, amount);
            count++;
            return count - 1;
        }

        Bill billAt(int at) {
            return at >= 0 && at < count && at < MOST_BILLS ? bills[at] : null;
        }

        boolean isInDefault(int carrier) {
            return isCarrier(carrier) && (inDefault >> carrier & 1) == 1;
        }

        void putDefault(int carrier, boolean isIn) {
            if (isCarrier(carrier)) {
                inDefault = isIn ? inDefault | 1 << carrier : inDefault & ~(1 << carrier);
            }
        }

        void settle() {
            forgetNets();
            number++;
            for (int k = 0; k < count; k++) {
                Bill bill = billAt(k);
                if (bill != null && bill.isToBeSettled() && !isInDefault(bill.payer)
                        && !isInDefault(bill.payee)) {
                    addToNets(bill, bill.settle(number));
                }
            }
        }

        /** Returns how many bills of the carrier are undone. */
        int undo(int carrier) {
            forgetNets();
            int undone = 0;
            for (int k = 0; k < count; k++) {
                Bill bill = billAt(k);
                if (bill != null && bill.isOf(carrier) && bill.isAsLeftBy(number)) {
                    addToNets(bill, bill.undo());
                    undone++;
                }
            }
            return undone;
        }

        private void forgetNets() {
            for (int carrier = 0; carrier < CARRIERS; carrier++) {
                nets[carrier] = 0;
            }
        }

        private void addToNets(Bill bill, int cents) {
            if (isCarrier(bill.payer) && isCarrier(bill.payee)) {
                nets[bill.payer] -= cents;
                nets[bill.payee] += cents;
            }
        }

        long netOf(int carrier) {
            return isCarrier(carrier) ? nets[carrier] : 0;
        }

        long sumOfNetsAboveZero() {
            long sum = 0;
            for (int carrier = 0; carrier < CARRIERS; carrier++) {
                sum += Math.max(netOf(carrier), 0);
            }
            return sum;
        }

        /** What a carrier got by all bills less what it paid, from how each bill stands. */
        long gotBy(int carrier) {
            long sum = 0;
            for (int k = 0; k < count; k++) {
                Bill bill = billAt(k);
                if (bill != null && bill.payee == carrier) {
                    sum += bill.gotByPayee();
                }
                if (bill != null && bill.payer == carrier) {
                    sum -= bill.gotByPayee();
                }
            }
            return sum;
        }
    }
}
