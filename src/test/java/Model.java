import java.math.BigDecimal;
import java.math.RoundingMode;
import java.util.ArrayList;
import java.util.HashMap;
import java.util.List;
import java.util.Map;
import java.util.TreeSet;

/**
 * The document once more, in the plainest words of Java and with all of its library, so that long
 * random runs can be compared. It keeps each move of money by itself and counts cash from them.
 */
final class Model {
    static final int NONE = -1;
    static final List<String> COUPONS = List.of("OPEN", "FLOWN", "VOID", "REFUNDED", "EXCHANGED");
    static final List<String> BILLS = List.of("WAITS", "PAID", "BACK", "RETURNED", "CLOSED");
    private static final int BUYER = 100;
    private static final int STATE = 200;

    record Fare(int from, int to, int cents, int first, int last, int stops) { }

    record Leg(int from, int to, int carrier, int day) { }

    record Move(int giver, int taker, long cents) { }

    static final class Coupon {
        Leg leg;
        int carrier;
        int share;
        int tax;
        int bill = NONE;
        String status = "OPEN";
    }

    static final class Ticket {
        int issuer;
        int price;
        int cuts;
        int unshared;
        final List<Coupon> coupons = new ArrayList<>();
    }

    static final class Bill {
        int payer;
        int payee;
        int amount;
        int rejections;
        int settled;
        boolean touched;
        Move latest;
        String status = "WAITS";
    }

    final Map<TreeSet<Integer>, Integer> miles = new HashMap<>();
    final Map<TreeSet<Integer>, Integer> weights = new HashMap<>();
    final Map<List<Integer>, Integer> provisos = new HashMap<>();
    final Map<Integer, Integer> departs = new HashMap<>();
    final Map<Integer, Integer> changes = new HashMap<>();
    final List<Fare> fares = new ArrayList<>();
    final TreeSet<Integer> withdrawn = new TreeSet<>();
    final List<Leg> legs = new ArrayList<>();
    final List<Ticket> tickets = new ArrayList<>();
    final List<Bill> bills = new ArrayList<>();
    final List<Move> moves = new ArrayList<>();
    final TreeSet<Integer> inDefault = new TreeSet<>();
    private final Map<Integer, Integer> known = new HashMap<>();
    int unit = 1;
    int penalty;
    int today;
    int clearings;

    private static void index(boolean isThere) {
        if (!isThere) {
            throw new IndexOutOfBoundsException();
        }
    }

    private static void argument(boolean isFit) {
        if (!isFit) {
            throw new IllegalArgumentException();
        }
    }

    private static void state(boolean isSo) {
        if (!isSo) {
            throw new IllegalStateException();
        }
    }

    private static boolean place(int place) {
        return 0 <= place && place <= 9;
    }

    private static boolean carrier(int carrier) {
        return 0 <= carrier && carrier <= 4;
    }

    private static TreeSet<Integer> pair(int one, int other) {
        return new TreeSet<>(List.of(one, other));
    }

    public int miles(int one, int other, int miles) {
        index(place(one) && place(other));
        argument(one != other && miles >= 1 && miles <= 9999);
        Integer before = this.miles.put(pair(one, other), miles);
        return before == null ? 0 : before;
    }

    public int fare(int from, int to, int cents, int first, int last, int stops) {
        index(place(from) && place(to));
        argument(from != to && cents >= 1 && cents <= 1000000);
        argument(first >= 0 && first <= 999 && last >= first && last <= 999);
        argument(stops >= 0 && stops <= 7);
        state(fares.size() < 40);
        fares.add(new Fare(from, to, cents, first, last, stops));
        return fares.size() - 1;
    }

    public void withdraw(int fare) {
        index(fare >= 0 && fare < fares.size());
        state(withdrawn.add(fare));
    }

    public int unit(int unit) {
        argument(unit >= 1 && unit <= 1000);
        int before = this.unit;
        this.unit = unit;
        return before;
    }

    public void tax(int place, int departs, int changes) {
        index(place(place));
        argument(departs >= 0 && departs <= 10000 && changes >= 0 && changes <= 10000);
        this.departs.put(place, departs);
        this.changes.put(place, changes);
    }

    public int weight(int one, int other, int weight) {
        index(place(one) && place(other));
        argument(one != other && weight >= 0 && weight <= 9999);
        Integer before = weights.put(pair(one, other), weight);
        return before == null ? 0 : before;
    }

    public int proviso(int carrier, int from, int to, int cents) {
        index(carrier(carrier) && place(from) && place(to));
        argument(from != to && cents >= NONE && cents <= 1000000);
        Integer before = provisos.put(List.of(carrier, from, to), cents);
        return before == null ? NONE : before;
    }

    public int penalty(int hundredths) {
        argument(hundredths >= 0 && hundredths <= 100);
        int before = penalty;
        penalty = hundredths;
        return before;
    }

    public int leg(int from, int to, int carrier, int day) {
        index(place(from) && place(to) && carrier(carrier));
        argument(from != to && day >= today && day <= 999);
        state(legs.size() < 8 && miles.containsKey(pair(from, to)));
        if (!legs.isEmpty()) {
            Leg ahead = legs.get(legs.size() - 1);
            state(ahead.to == from && ahead.day <= day);
        }
        legs.add(new Leg(from, to, carrier, day));
        return legs.size();
    }

    public int wipe() {
        int before = legs.size();
        legs.clear();
        return before;
    }

    private List<Integer> points() {
        List<Integer> points = new ArrayList<>();
        for (Leg leg : legs) {
            if (points.isEmpty()) {
                points.add(leg.from);
            }
            points.add(leg.to);
        }
        return points;
    }

    public int part(int from, int to) {
        int points = points().size();
        index(from >= 0 && from < points && to >= 0 && to < points);
        argument(to > from);
        return partPrice(from, to);
    }

    private List<Fare> inForce(int from, int to) {
        List<Fare> found = new ArrayList<>();
        for (int k = 0; k < fares.size(); k++) {
            Fare fare = fares.get(k);
            if (!withdrawn.contains(k) && fare.from == from && fare.to == to
                    && fare.first <= today && today <= fare.last) {
                found.add(fare);
            }
        }
        return found;
    }

    private int partPrice(int i, int j) {
        List<Integer> points = points();
        List<Fare> found = inForce(points.get(i), points.get(j));
        if (found.isEmpty()) {
            return -1;
        }
        int stops = 0;
        int flown = 0;
        for (int k = i; k < j; k++) {
            stops += k > i && legs.get(k).day > legs.get(k - 1).day ? 1 : 0;
            flown += miles.get(pair(legs.get(k).from, legs.get(k).to));
        }
        final int needed = stops;
        found.removeIf(fare -> fare.stops < needed);
        if (found.isEmpty()) {
            return -2;
        }
        Integer direct = miles.get(pair(points.get(i), points.get(j)));
        if (direct == null || flown > direct * 120 / 100 * 125 / 100) {
            return -3;
        }
        int base = found.stream().mapToInt(Fare::cents).min().getAsInt();
        for (int k = i + 1; k < j; k++) {
            base = Math.max(base, inForce(points.get(i), points.get(k)).stream()
                    .mapToInt(Fare::cents).min().orElse(0));
        }
        int allowed = direct * 120 / 100;
        int more = 0;
        while (flown > (more == 0 ? allowed : allowed * (100 + more) / 100)) {
            more += 5;
        }
        BigDecimal exact = new BigDecimal(base).multiply(new BigDecimal(100 + more)).movePointLeft(2);
        BigDecimal step = new BigDecimal(unit);
        return exact.divide(step, 0, RoundingMode.CEILING).multiply(step).intValueExact();
    }

    /** The least way as its sum and its cuts; null without one. */
    private int[] leastWay() {
        int[] least = null;
        if (legs.isEmpty()) {
            return null;
        }
        known.clear();
        for (int cuts = 0; cuts < 256; cuts++) {
            int[] way = wayBy(cuts);
            if (way != null && (least == null || way[0] < least[0])) {
                least = way;
            }
        }
        return least;
    }

    private int[] wayBy(int cuts) {
        int sum = 0;
        for (int[] part : partsBy(cuts)) {
            int price = part[1] > legs.size() ? -1
                    : known.computeIfAbsent(part[0] * 10 + part[1], k -> partPrice(part[0], part[1]));
            if (price < 0) {
                return null;
            }
            sum += price;
        }
        return new int[] {sum, cuts};
    }

    private List<int[]> partsBy(int cuts) {
        List<int[]> parts = new ArrayList<>();
        int start = 0;
        for (int k = 0; k < 8; k++) {
            if ((cuts & 1 << k) != 0) {
                parts.add(new int[] {start, k});
                start = k;
            }
        }
        parts.add(new int[] {start, legs.size()});
        // a part that ends where it begins makes the set none of cuts
        parts.replaceAll(part -> part[0] < part[1] ? part : new int[] {0, 99});
        return parts;
    }

    public int price() {
        int[] way = leastWay();
        return way == null ? NONE : way[0];
    }

    public int priceAnew() {
        return price();
    }

    public int cuts() {
        int[] way = leastWay();
        return way == null ? NONE : way[1];
    }

    private void journeyIsIssuable() {
        state(leastWay() != null);
        state(legs.stream().noneMatch(leg -> leg.day < today));
        state(tickets.size() < 30);
    }

    private Ticket build(int issuer) {
        int[] way = leastWay();
        Ticket ticket = new Ticket();
        ticket.issuer = issuer;
        ticket.price = way[0];
        ticket.cuts = way[1];
        for (int k = 0; k < legs.size(); k++) {
            Coupon coupon = new Coupon();
            coupon.leg = legs.get(k);
            coupon.carrier = coupon.leg.carrier;
            boolean first = k == 0 || legs.get(k - 1).day < coupon.leg.day;
            coupon.tax = (first ? departs : changes).getOrDefault(coupon.leg.from, 0);
            ticket.coupons.add(coupon);
        }
        for (int[] part : partsBy(ticket.cuts)) {
            ticket.unshared += share(ticket.coupons.subList(part[0], part[1]),
                    partPrice(part[0], part[1]));
        }
        tickets.add(ticket);
        legs.clear();
        return ticket;
    }

    private int share(List<Coupon> coupons, int price) {
        int left = price;
        List<Coupon> others = new ArrayList<>();
        for (Coupon coupon : coupons) {
            Leg leg = coupon.leg;
            int proviso = provisos.getOrDefault(List.of(leg.carrier, leg.from, leg.to), NONE);
            if (proviso == NONE) {
                others.add(coupon);
                continue;
            }
            coupon.share = proviso > left ? left : proviso;
            left -= coupon.share;
        }
        if (others.isEmpty()) {
            return left;
        }
        long all = others.stream().mapToLong(this::weightOf).sum();
        int given = 0;
        for (Coupon coupon : others) {
            coupon.share = (int) Math.floorDiv(left * weightOf(coupon), all);
            given += coupon.share;
        }
        others.get(others.size() - 1).share += left - given;
        return 0;
    }

    private long weightOf(Coupon coupon) {
        TreeSet<Integer> pair = pair(coupon.leg.from, coupon.leg.to);
        int weight = weights.getOrDefault(pair, 0);
        return weight == 0 ? miles.get(pair) : weight;
    }

    private static int taxes(Ticket ticket) {
        return ticket.coupons.stream().mapToInt(coupon -> coupon.tax).sum();
    }

    private static List<Coupon> open(Ticket ticket) {
        return ticket.coupons.stream().filter(coupon -> coupon.status.equals("OPEN")).toList();
    }

    private Ticket ticket(int ticket) {
        index(ticket >= 0 && ticket < tickets.size());
        return tickets.get(ticket);
    }

    private Coupon coupon(int ticket, int coupon) {
        Ticket held = ticket(ticket);
        index(coupon >= 0 && coupon < held.coupons.size());
        return held.coupons.get(coupon);
    }

    private Bill bill(int bill) {
        index(bill >= 0 && bill < bills.size());
        return bills.get(bill);
    }

    public int issue(int carrier) {
        index(carrier(carrier));
        journeyIsIssuable();
        Ticket ticket = build(carrier);
        moves.add(new Move(BUYER, carrier, ticket.price + taxes(ticket)));
        return tickets.size() - 1;
    }

    public int fly(int ticket, int coupon) {
        Coupon flown = coupon(ticket, coupon);
        Ticket held = ticket(ticket);
        state(flown.status.equals("OPEN") && flown.leg.day <= today);
        for (Coupon ahead : held.coupons.subList(0, coupon)) {
            ahead.status = ahead.status.equals("OPEN") ? "VOID" : ahead.status;
        }
        flown.status = "FLOWN";
        moves.add(new Move(held.issuer, STATE + flown.leg.from, flown.tax));
        if (flown.carrier == held.issuer) {
            return NONE;
        }
        Bill bill = new Bill();
        bill.payer = held.issuer;
        bill.payee = flown.carrier;
        bill.amount = flown.share;
        bills.add(bill);
        flown.bill = bills.size() - 1;
        return flown.bill;
    }

    public int endorse(int ticket, int coupon, int carrier) {
        Coupon endorsed = coupon(ticket, coupon);
        index(carrier(carrier));
        state(endorsed.status.equals("OPEN") && endorsed.carrier != carrier);
        int before = endorsed.carrier;
        endorsed.carrier = carrier;
        return before;
    }

    public int refund(int ticket) {
        Ticket held = ticket(ticket);
        List<Coupon> open = open(held);
        state(!open.isEmpty());
        int shares = 0;
        int taxes = 0;
        for (Coupon coupon : open) {
            coupon.status = "REFUNDED";
            shares += coupon.share;
            taxes += coupon.tax;
        }
        int less = new BigDecimal(shares).multiply(new BigDecimal(penalty)).movePointLeft(2)
                .setScale(0, RoundingMode.CEILING).intValueExact();
        moves.add(new Move(held.issuer, BUYER, shares - less + taxes));
        return shares - less + taxes;
    }

    public int reissue(int ticket) {
        Ticket held = ticket(ticket);
        List<Coupon> open = open(held);
        state(!open.isEmpty());
        journeyIsIssuable();
        int less = 0;
        for (Coupon coupon : open) {
            coupon.status = "EXCHANGED";
            less += coupon.share + coupon.tax;
        }
        Ticket anew = build(held.issuer);
        int due = anew.price + taxes(anew) - less;
        moves.add(due < 0 ? new Move(held.issuer, BUYER, -due) : new Move(BUYER, held.issuer, due));
        return due;
    }

    public int pass(int days) {
        argument(days >= 1 && days <= 100);
        state(today + days <= 999);
        today += days;
        return today;
    }

    public long clear() {
        clearings++;
        List<Move> settled = new ArrayList<>();
        for (Bill bill : bills) {
            boolean waits = bill.status.equals("WAITS");
            if (inDefault.contains(bill.payer) || inDefault.contains(bill.payee)
                    || !waits && !bill.status.equals("BACK")) {
                continue;
            }
            boolean third = bill.rejections == 3;
            if (waits) {
                bill.status = "PAID";
                bill.latest = new Move(bill.payer, bill.payee, bill.amount);
            } else {
                bill.status = third ? "CLOSED" : "RETURNED";
                bill.latest = new Move(bill.payee, bill.payer, third ? bill.amount / 2 : bill.amount);
            }
            bill.settled = clearings;
            bill.touched = false;
            settled.add(bill.latest);
        }
        moves.addAll(settled);
        long above = 0;
        for (int carrier = 0; carrier < 5; carrier++) {
            above += Math.max(0, balance(carrier, settled));
        }
        return above;
    }

    public int reject(int bill) {
        Bill rejected = bill(bill);
        state(rejected.status.equals("PAID"));
        state(rejected.settled == clearings || rejected.settled == clearings - 1);
        rejected.status = "BACK";
        rejected.touched = true;
        rejected.rejections++;
        return rejected.rejections;
    }

    public void rebill(int bill) {
        Bill billed = bill(bill);
        state(billed.status.equals("RETURNED"));
        billed.status = "WAITS";
        billed.touched = true;
    }

    public int fails(int carrier, boolean isIn) {
        index(carrier(carrier));
        if (!isIn) {
            inDefault.remove(carrier);
            return 0;
        }
        if (!inDefault.add(carrier)) {
            return 0;
        }
        int undone = 0;
        for (Bill bill : bills) {
            if (bill.payer != carrier && bill.payee != carrier || bill.settled == 0
                    || bill.settled != clearings || bill.touched) {
                continue;
            }
            moves.add(new Move(bill.latest.taker, bill.latest.giver, bill.latest.cents));
            bill.status = bill.status.equals("PAID") ? "WAITS" : "BACK";
            bill.settled = 0;
            undone++;
        }
        return undone;
    }

    public int ofTicket(int ticket, int what) {
        Ticket asked = ticket(ticket);
        argument(what >= 0 && what <= 5);
        return List.of(asked.price, taxes(asked), asked.issuer, asked.coupons.size(), asked.cuts,
                asked.unshared).get(what);
    }

    public int ofCoupon(int ticket, int coupon, int what) {
        Coupon asked = coupon(ticket, coupon);
        argument(what >= 0 && what <= 5);
        return List.of(COUPONS.indexOf(asked.status), asked.share, asked.tax, asked.carrier,
                asked.leg.day, asked.bill).get(what);
    }

    public int ofBill(int bill, int what) {
        Bill asked = bill(bill);
        argument(what >= 0 && what <= 5);
        return List.of(BILLS.indexOf(asked.status), asked.amount, asked.payer, asked.payee,
                asked.rejections, asked.settled).get(what);
    }

    private static long balance(int account, List<Move> moves) {
        long sum = 0;
        for (Move move : moves) {
            sum += move.taker == account ? move.cents : 0;
            sum -= move.giver == account ? move.cents : 0;
        }
        return sum;
    }

    public long cash(int carrier) {
        index(carrier(carrier));
        return balance(carrier, moves);
    }

    public long cashAnew(int carrier) {
        return cash(carrier);
    }

    public long state(int place) {
        index(place(place));
        return balance(STATE + place, moves);
    }

    public long paid() {
        return -balance(BUYER, moves);
    }

    public int of(int what) {
        argument(what >= 0 && what <= 5);
        int bits = 0;
        for (int carrier : inDefault) {
            bits += 1 << carrier;
        }
        return List.of(today, legs.size(), tickets.size(), bills.size(), clearings, bits).get(what);
    }
}
