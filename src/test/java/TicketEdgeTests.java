/**
 * Promises 16 to 21, 26, 27 and 29 to 33 at their edges, sentence by sentence, and the 512 calls for
 * which an object is used.
 */
public final class TicketEdgeTests {
    private static final int STATUS = 0;
    private static final int SHARE = 1;
    private static final int BILL = 5;
    private static final Check.Maker ROW = TicketTests::row;
    private static final Check.Maker PRICED = TicketTests::priced;
    private static final Check.Maker SOLD = TicketTests::sold;
    private static final Check.Maker SOLD_OUT = TicketTests::soldOut;
    private static final Check.Maker USED = TicketTests::used;
    private static final Check.Maker LAST_DAYS = TicketTests::lastDays;
    private static final Check.Maker EIGHT = TicketEdgeTests::eightCoupons;

    private static Proratehouse thereAndBack() {
        Proratehouse house = new Proratehouse();
        house.miles(0, 1, 100);
        house.fare(0, 1, 1000, 0, 999, 0);
        house.fare(1, 0, 1000, 0, 999, 0);
        return house;
    }

    private static void eightLegs(Proratehouse house) {
        for (int k = 0; k < 8; k++) {
            house.leg(k % 2, 1 - k % 2, k % 5, house.of(0));
        }
    }

    /** A ticket by carrier 0 of eight coupons by the carriers 0 to 4 and again 0 to 2, all of today. */
    private static Proratehouse eightCoupons() {
        Proratehouse house = thereAndBack();
        eightLegs(house);
        house.issue(0);
        return house;
    }

    /** A ticket by carrier 0 of one coupon on a day, by carrier 1 from 0 to 1. */
    private static Proratehouse oneCoupon(int day) {
        Proratehouse house = thereAndBack();
        house.leg(0, 1, 1, day);
        house.issue(0);
        return house;
    }

    private static Proratehouse onDay(Proratehouse house, int day) {
        FareEdgeTests.passTo(house, day);
        return house;
    }

    /** 29 tickets of a coupon each, and a journey. */
    private static Proratehouse almostSoldOut() {
        Proratehouse house = thereAndBack();
        for (int k = 0; k < 29; k++) {
            house.leg(0, 1, 0, 0);
            house.issue(k % 5);
        }
        house.leg(0, 1, 0, 0);
        return house;
    }

    /**
     * 0 - 1 by carrier 0 and 1 - 2 by carrier 1, 100 miles each, sold by carrier 4 as one part of some
     * cents; with provisos of both carriers, -1 for none.
     */
    private static Proratehouse two(int cents, int proviso, int other) {
        Proratehouse house = new Proratehouse();
        house.miles(0, 1, 100);
        house.miles(1, 2, 100);
        house.miles(0, 2, 200);
        house.fare(0, 2, cents, 0, 999, 7);
        house.proviso(0, 0, 1, proviso);
        house.proviso(1, 1, 2, other);
        house.leg(0, 1, 0, 0);
        house.leg(1, 2, 1, 0);
        house.issue(4);
        return house;
    }

    // ---- promise 16

    private static void issuersAtTheirEnds() {
        Check.bounds(PRICED, Check.INDEX, "16 carrier", 0, 4, (h, n) -> h.issue(n));
        Check.answers(PRICED, 0, "16 the first", h -> h.issue(4));
        Check.answers(TicketEdgeTests::almostSoldOut, 29, "16 the last", h -> h.issue(0));
        Check.Maker late = () -> onDay(TicketTests.priced(), 1);
        Check.refuses(late, Check.INDEX, "16 no carrier, a leg of yesterday", h -> h.issue(-1));
        Check.refuses(SOLD_OUT, Check.INDEX, "16 no carrier, sold out", h -> h.issue(5));
        Check.Maker given = () -> {
            Proratehouse made = TicketTests.soldOut();
            for (int k = 0; k < 29; k++) {
                made.refund(k);
            }
            return made;
        };
        Check.refuses(given, Check.STATE, "16 refunded ones are tickets", h -> h.issue(0));
        Check.Maker exchanged = () -> {
            Proratehouse made = almostSoldOut();
            made.reissue(0);
            made.leg(0, 1, 0, 0);
            return made;
        };
        Check.refuses(exchanged, Check.STATE, "16 exchanged ones are tickets", h -> h.issue(0));
    }

    private static void daysOfIssue() {
        Check.Maker made = () -> {
            Proratehouse house = thereAndBack();
            house.leg(0, 1, 0, 5);
            house.leg(1, 0, 0, 6);
            return house;
        };
        Check.answers(() -> onDay(made.make(), 4), 0, "16 the first leg is tomorrow", h -> h.issue(0));
        Check.answers(() -> onDay(made.make(), 5), 0, "16 the first leg is today", h -> h.issue(0));
        Check.refuses(() -> onDay(made.make(), 6), Check.STATE, "16 it was yesterday", h -> h.issue(0));
        Check.refuses(() -> onDay(made.make(), 7), Check.STATE, "16 both were", h -> h.issue(0));
        Check.Maker brief = () -> {
            Proratehouse house = new Proratehouse();
            house.miles(0, 1, 100);
            house.fare(0, 1, 100, 0, 3, 0);
            house.leg(0, 1, 0, 999);
            return house;
        };
        Check.answers(() -> onDay(brief.make(), 3), 0, "16 the last day of the fare", h -> h.issue(0));
        Check.refuses(() -> onDay(brief.make(), 4), Check.STATE, "16 the day behind it", h -> h.issue(0));
        Check.refuses(() -> onDay(brief.make(), 4), Check.INDEX, "16 no carrier, no price", h -> h.issue(5));
    }

    private static void couponsAndTaxes() {
        Check.answers(EIGHT, 8, "16 eight coupons", h -> h.ofTicket(0, 3));
        Check.answers(EIGHT, 254, "16 eight parts", h -> h.ofTicket(0, 4));
        Check.answers(() -> oneCoupon(0), 1, "16 one coupon", h -> h.ofTicket(0, 3));
        Check.answers(() -> oneCoupon(0), 0, "16 one part", h -> h.ofTicket(0, 4));
        Check.answers(EIGHT, 0, "16 no taxes at first", h -> h.ofTicket(0, 1));
        // departs 10 and 20, changes 1 and 2
        int[][] rows = {{0, 0, 2}, {0, 1, 20}, {998, 999, 20}, {999, 999, 2}};
        for (int[] row : rows) {
            Proratehouse house = TicketTests.row();
            house.leg(0, 1, 0, row[0]);
            house.leg(1, 2, 0, row[1]);
            house.issue(0);
            Check.due("16 tax of the first on day " + row[0], 10, house.ofCoupon(0, 0, 2));
            Check.due("16 tax of the next on day " + row[1], row[2], house.ofCoupon(0, 1, 2));
            Check.due("16 all taxes", 10 + row[2], house.ofTicket(0, 1));
            Check.due("16 the buyer pays both", 2010 + row[2], house.paid());
        }
    }

    private static void provisosAtTheirEnds() {
        // cents, both provisos, both shares, what stays with the issuer
        int[][] rows = {{1000, -1, -1, 500, 500, 0}, {1000, 0, -1, 0, 1000, 0}, {1000, 999, -1, 999, 1, 0},
            {1000, 1000, -1, 1000, 0, 0}, {1000, 1001, -1, 1000, 0, 0}, {1000, -1, 0, 1000, 0, 0},
            {1000, -1, 1000, 0, 1000, 0}, {1000, -1, 1001, 0, 1000, 0}, {1000, 400, 600, 400, 600, 0},
            {1000, 400, 599, 400, 599, 1}, {1000, 400, 601, 400, 600, 0}, {1000, 1000, 1, 1000, 0, 0},
            {1000, 0, 0, 0, 0, 1000}, {1000, 1000000, 1000000, 1000, 0, 0}, {1, -1, -1, 0, 1, 0},
            {1, 0, 1, 0, 1, 0}, {999, -1, -1, 499, 500, 0}, {1000000, 1000000, 0, 1000000, 0, 0},
            {1000000, 999999, -1, 999999, 1, 0}};
        for (int[] row : rows) {
            String what = "16 provisos " + row[1] + " and " + row[2] + " of " + row[0];
            Proratehouse house = two(row[0], row[1], row[2]);
            TicketTests.shares(what, house, 0, row[3], row[4]);
            Check.due(what + " stays", row[5], house.ofTicket(0, 5));
            Check.due(what + " paid to the issuer", row[0], house.cash(4));
        }
    }

    private static void missingCents() {
        // of eight coupons of one mile each: what is missing is added to the last one
        int[][] rows = {{1, 0, 1}, {7, 0, 7}, {8, 1, 1}, {9, 1, 2}, {15, 1, 8}, {16, 2, 2}};
        for (int[] row : rows) {
            Proratehouse house = new Proratehouse();
            for (int k = 0; k < 8; k++) {
                house.miles(k, k + 1, 1);
                house.leg(k, k + 1, 0, 0);
            }
            FareTests.open(house, 0, 8, 8, row[0]);
            house.issue(0);
            for (int k = 0; k < 8; k++) {
                Check.due("16 share of eight of " + row[0], row[k < 7 ? 1 : 2], house.ofCoupon(0, k, SHARE));
            }
        }
    }

    // ---- promise 17

    private static void flightsAtTheirEnds() {
        Check.bounds(SOLD, Check.INDEX, "17 ticket of one", 0, 0, (h, n) -> h.fly(n, 0));
        Check.bounds(SOLD_OUT, Check.INDEX, "17 ticket of 30", 0, 29, (h, n) -> h.fly(n, 0));
        Check.bounds(EIGHT, Check.INDEX, "17 coupon of eight", 0, 7, (h, n) -> h.fly(0, n));
        Check.bounds(SOLD_OUT, Check.INDEX, "17 coupon of one", 0, 0, (h, n) -> h.fly(29, n));
        int[] days = {0, 5, 999};
        for (int day : days) {
            Check.answers(() -> onDay(oneCoupon(day), day), 0, "17 on its day " + day, h -> h.fly(0, 0));
            Check.answers(() -> onDay(oneCoupon(day), 999), 0, "17 later", h -> h.fly(0, 0));
            if (day > 0) {
                Check.refuses(() -> onDay(oneCoupon(day), day - 1), Check.STATE, "17 ahead of day " + day,
                        h -> h.fly(0, 0));
                Check.refuses(() -> oneCoupon(day), Check.STATE, "17 far ahead of day " + day, h -> h.fly(0, 0));
            }
        }
        Check.Maker flown = () -> {
            Proratehouse made = eightCoupons();
            made.fly(0, 6);
            return made;
        };
        Check.refuses(flown, Check.STATE, "17 flown twice", h -> h.fly(0, 6));
        Check.refuses(flown, Check.STATE, "17 void, the first", h -> h.fly(0, 0));
        Check.refuses(flown, Check.STATE, "17 void, the one ahead", h -> h.fly(0, 5));
        Check.answers(flown, 1, "17 the one behind is OPEN", h -> h.fly(0, 7));
        Check.refuses(flown, Check.INDEX, "17 none behind the last", h -> h.fly(0, 8));
    }

    private static void eightFlights() {
        Proratehouse house = eightCoupons();
        int[] bills = {-1, 0, 1, 2, 3, -1, 4, 5};
        for (int k = 0; k < 8; k++) {
            Check.due("17 bill of coupon " + k, bills[k], house.fly(0, k));
            Check.due("17 told of coupon " + k, bills[k], house.ofCoupon(0, k, BILL));
        }
        TicketTests.statuses("17 none is void", house, 0, 1, 1, 1, 1, 1, 1, 1, 1);
        for (int k = 0; k < 8; k++) {
            house = eightCoupons();
            house.fly(0, k);
            for (int other = 0; other < 8; other++) {
                int due = other < k ? Proratehouse.VOID : other == k ? Proratehouse.FLOWN : Proratehouse.OPEN;
                Check.due("17 " + other + " when " + k + " is flown", due, house.ofCoupon(0, other, STATUS));
            }
        }
        house = thereAndBack();
        house.miles(9, 0, 10);
        house.fare(9, 0, 5, 0, 0, 0);
        house.tax(9, 10000, 1);
        house.leg(9, 0, 0, 0);
        house.issue(0);
        Check.due("17 no bill of the issuer", -1, house.fly(0, 0));
        Check.due("31 the state of the last place", 10000, house.state(9));
        TicketTests.money("17 the tax is the issuer's to pay", house, 10005, 5);
    }

    // ---- promise 18

    private static void endorsementsAtTheirEnds() {
        Check.bounds(SOLD, Check.INDEX, "18 ticket of one", 0, 0, (h, n) -> h.endorse(n, 0, 4));
        Check.bounds(SOLD_OUT, Check.INDEX, "18 ticket of 30", 0, 29, (h, n) -> h.endorse(n, 0, 4));
        Check.bounds(EIGHT, Check.INDEX, "18 coupon of eight", 0, 7, (h, n) -> h.endorse(0, n, 3));
        Check.bounds(SOLD_OUT, Check.INDEX, "18 coupon of one", 0, 0, (h, n) -> h.endorse(29, n, 3));
        Check.bounds(SOLD, Check.INDEX, "18 carrier", 0, 4, (h, n) -> h.endorse(0, 1, n));
        Check.refuses(USED, Check.INDEX, "18 no carrier, void", h -> h.endorse(0, 0, 5));
        Check.refuses(USED, Check.INDEX, "18 no carrier, flown", h -> h.endorse(0, 2, -1));
        Check.refuses(USED, Check.INDEX, "18 no carrier, refunded", h -> h.endorse(1, 0, 5));
        Check.refuses(USED, Check.INDEX, "18 no carrier, exchanged", h -> h.endorse(2, 2, 5));
        Check.refuses(USED, Check.INDEX, "18 no ticket, no carrier", h -> h.endorse(4, 0, 5));
        Check.refuses(USED, Check.STATE, "18 void, and by that carrier", h -> h.endorse(0, 0, 0));
        Check.refuses(USED, Check.STATE, "18 flown, to another", h -> h.endorse(0, 2, 0));
        Check.Maker endorsed = () -> {
            Proratehouse made = TicketTests.sold();
            made.endorse(0, 1, 4);
            return made;
        };
        Check.refuses(endorsed, Check.STATE, "18 by that carrier since", h -> h.endorse(0, 1, 4));
        Check.answers(endorsed, 4, "18 back again", h -> h.endorse(0, 1, 1));
        Check.answers(() -> onDay(oneCoupon(5), 999), 1, "18 its day has gone by", h -> h.endorse(0, 0, 2));
        Check.answers(() -> oneCoupon(999), 1, "18 its day is to come", h -> h.endorse(0, 0, 2));
        Check.answers(EIGHT, 0, "18 from the issuer", h -> h.endorse(0, 0, 1));
        Proratehouse house = eightCoupons();
        house.endorse(0, 0, 1);
        Check.due("18 a bill to the new carrier", 0, house.fly(0, 0));
        house.endorse(0, 1, 0);
        Check.due("18 none to the issuer", -1, house.fly(0, 1));
        Check.due("18 the share stays", 1000, house.ofCoupon(0, 1, SHARE));
        // the proviso of the new carrier comes too late
        house = two(1000, 300, -1);
        house.proviso(2, 0, 1, 999);
        house.endorse(0, 0, 2);
        TicketTests.shares("18 shares stay", house, 0, 300, 700);
    }

    // ---- promise 19

    private static void refundsAtTheirEnds() {
        Check.bounds(SOLD, Check.INDEX, "19 ticket of one", 0, 0, (h, n) -> h.refund(n));
        Check.bounds(SOLD_OUT, Check.INDEX, "19 ticket of 30", 0, 29, (h, n) -> h.refund(n));
        // shares together, hundredths, what the buyer gets
        int[][] rows = {{1, 0, 1}, {1, 1, 0}, {1, 99, 0}, {1, 100, 0}, {99, 1, 98}, {100, 1, 99},
            {101, 1, 99}, {100, 99, 1}, {101, 99, 1}, {199, 99, 1}, {200, 99, 2}, {3, 33, 2}, {3, 34, 1},
            {200, 50, 100}, {201, 50, 100}, {1000000, 0, 1000000}, {1000000, 99, 10000},
            {1000000, 100, 0}};
        for (int[] row : rows) {
            Proratehouse house = two(row[0], -1, -1);
            house.penalty(row[1]);
            String what = "19 of " + row[0] + " less " + row[1] + " hundredths";
            Check.due(what, row[2], house.refund(0));
            TicketTests.money(what, house, row[0] - row[2], 0, 0, 0, 0, row[0] - row[2]);
        }
        Proratehouse taxed = TicketTests.sold();
        taxed.penalty(100);
        Check.due("19 all taxes, no share", 42, taxed.refund(0));
        Check.Maker shareless = () -> two(1000, 0, 0);
        Check.answers(shareless, 0, "19 nothing is shared", h -> h.refund(0));
        Proratehouse house = shareless.make();
        house.refund(0);
        TicketTests.statuses("19 nothing is shared", house, 0, 3, 3);
        TicketTests.money("19 nothing is shared", house, 1000, 0, 0, 0, 0, 1000);
        lastOpenOnes();
    }

    private static void lastOpenOnes() {
        Check.Maker one = () -> {
            Proratehouse made = eightCoupons();
            made.fly(0, 6);
            eightLegs(made);
            return made;
        };
        Check.Maker none = () -> {
            Proratehouse made = eightCoupons();
            made.fly(0, 7);
            eightLegs(made);
            return made;
        };
        Check.Maker given = () -> {
            Proratehouse made = eightCoupons();
            made.refund(0);
            eightLegs(made);
            return made;
        };
        Check.Maker exchanged = () -> {
            Proratehouse made = eightCoupons();
            eightLegs(made);
            made.reissue(0);
            eightLegs(made);
            return made;
        };
        Check.answers(one, 1000, "19 one is OPEN", h -> h.refund(0));
        Check.refuses(none, Check.STATE, "19 none is OPEN", h -> h.refund(0));
        Check.refuses(given, Check.STATE, "19 refunded twice", h -> h.refund(0));
        Check.refuses(exchanged, Check.STATE, "19 exchanged", h -> h.refund(0));
        Check.answers(exchanged, 8000, "19 the one issued for it", h -> h.refund(1));
        Check.answers(one, 7000, "20 one is OPEN", h -> h.reissue(0));
        Check.refuses(none, Check.STATE, "20 none is OPEN", h -> h.reissue(0));
        Check.refuses(given, Check.STATE, "20 refunded", h -> h.reissue(0));
        Check.refuses(exchanged, Check.STATE, "20 exchanged twice", h -> h.reissue(0));
        Check.answers(exchanged, 0, "20 the one issued for it", h -> h.reissue(1));
    }

    // ---- promise 20

    private static void reissuesAtTheirEnds() {
        Check.bounds(SOLD, Check.INDEX, "20 ticket of one", 0, 0, (h, n) -> h.reissue(n));
        Check.bounds(TicketEdgeTests::almostSoldOut, Check.INDEX, "20 ticket of 29", 0, 28, (h, n) -> h.reissue(n));
        Proratehouse house = almostSoldOut();
        Check.due("20 the last there may be", 0, house.reissue(28));
        Check.due("20 there are 30", 30, house.of(2));
        Check.due("20 by the same carrier", 28 % 5, house.ofTicket(29, 2));
        Check.refuses(SOLD_OUT, Check.STATE, "20 there are 30", h -> h.reissue(29));
        Check.refuses(SOLD_OUT, Check.INDEX, "20 no ticket, sold out", h -> h.reissue(-1));
        Check.refuses(() -> onDay(TicketTests.sold(), 1), Check.INDEX, "20 no ticket, late", h -> h.reissue(1));
        Check.refuses(USED, Check.INDEX, "20 no ticket at all", h -> h.reissue(4));
        Check.Maker wiped = () -> {
            Proratehouse made = TicketTests.sold();
            made.wipe();
            return made;
        };
        Check.refuses(wiped, Check.INDEX, "20 no ticket, no leg", h -> h.reissue(1));
        Check.Maker later = () -> {
            Proratehouse made = TicketTests.sold();
            made.wipe();
            made.leg(0, 1, 0, 5);
            return made;
        };
        // a ticket of 3042 for one of 1010
        Check.answers(() -> onDay(later.make(), 4), -2032, "20 the leg is tomorrow", h -> h.reissue(0));
        Check.answers(() -> onDay(later.make(), 5), -2032, "20 the leg is today", h -> h.reissue(0));
        Check.refuses(() -> onDay(later.make(), 6), Check.STATE, "20 it was yesterday", h -> h.reissue(0));
        // what is paid, at 0 and next to it
        int[][] rows = {{999, -1}, {1000, 0}, {1001, 1}};
        for (int[] row : rows) {
            house = two(1000, -1, -1);
            house.withdraw(0);
            house.fare(0, 2, row[0], 0, 999, 7);
            house.penalty(100);
            house.leg(0, 1, 0, 0);
            house.leg(1, 2, 1, 0);
            Check.due("20 for one of " + row[0], row[1], house.reissue(0));
            TicketTests.money("20 for one of " + row[0], house, row[0], 0, 0, 0, 0, row[0]);
        }
        house = two(1000, 0, 0);
        house.leg(0, 1, 0, 0);
        house.leg(1, 2, 1, 0);
        Check.due("20 what was no share is paid again", 1000, house.reissue(0));
    }

    // ---- promise 21

    private static void daysAtTheirEnds() {
        Check.bounds(ROW, Check.ARGUMENT, "21 days", 1, 100, (h, n) -> h.pass(n));
        Check.bounds(() -> onDay(TicketTests.sold(), 899), Check.ARGUMENT, "21 days from 899 on", 1, 100,
                (h, n) -> h.pass(n));
        Check.answers(() -> onDay(TicketTests.row(), 899), 999, "21 to the last day by 100", h -> h.pass(100));
        Check.answers(LAST_DAYS, 901, "21 one of 99", h -> h.pass(1));
        Check.refuses(LAST_DAYS, Check.STATE, "21 one above", h -> h.pass(100));
        Check.refuses(LAST_DAYS, Check.ARGUMENT, "21 out of range, and above", h -> h.pass(101));
        Check.Maker last = () -> onDay(TicketTests.sold(), 999);
        Check.answers(() -> onDay(TicketTests.sold(), 998), 999, "21 to the last day by one", h -> h.pass(1));
        Check.refuses(last, Check.STATE, "21 on the last day", h -> h.pass(1));
        Check.refuses(last, Check.STATE, "21 on the last day, most", h -> h.pass(100));
        Check.refuses(last, Check.ARGUMENT, "21 on the last day, none", h -> h.pass(0));
        Check.refuses(last, Check.ARGUMENT, "21 on the last day, too many", h -> h.pass(101));
        Check.answers(last, 999, "33 the last day", h -> h.of(0));
    }

    // ---- promises 26 to 33

    private static void askedAtTheirEnds() {
        Check.bounds(SOLD_OUT, Check.INDEX, "26 ticket of 30", 0, 29, (h, n) -> h.ofTicket(n, 0));
        Check.bounds(SOLD, Check.INDEX, "26 ticket of one", 0, 0, (h, n) -> h.ofTicket(n, 5));
        Check.bounds(SOLD, Check.ARGUMENT, "26 what", 0, 5, (h, n) -> h.ofTicket(0, n));
        Check.refuses(SOLD, Check.INDEX, "26 no ticket, what below", h -> h.ofTicket(1, -1));
        Check.refuses(ROW, Check.INDEX, "26 no ticket at all, what above", h -> h.ofTicket(0, 6));
        Check.bounds(SOLD_OUT, Check.INDEX, "27 ticket of 30", 0, 29, (h, n) -> h.ofCoupon(n, 0, 0));
        Check.bounds(EIGHT, Check.INDEX, "27 coupon of eight", 0, 7, (h, n) -> h.ofCoupon(0, n, 5));
        Check.bounds(SOLD_OUT, Check.INDEX, "27 coupon of one", 0, 0, (h, n) -> h.ofCoupon(29, n, 0));
        Check.bounds(SOLD, Check.ARGUMENT, "27 what", 0, 5, (h, n) -> h.ofCoupon(0, 2, n));
        Check.refuses(SOLD, Check.INDEX, "27 no ticket, what below", h -> h.ofCoupon(1, 0, -1));
        Check.refuses(SOLD, Check.INDEX, "27 no coupon, what above", h -> h.ofCoupon(0, 3, 6));
        Check.bounds(USED, Check.INDEX, "29 carrier", 0, 4, (h, n) -> h.cash(n));
        Check.bounds(USED, Check.INDEX, "30 carrier", 0, 4, (h, n) -> h.cashAnew(n));
        Check.bounds(USED, Check.INDEX, "31 place", 0, 9, (h, n) -> h.state(n));
        Check.bounds(USED, Check.ARGUMENT, "33 what", 0, 5, (h, n) -> h.of(n));
        Check.bounds(Proratehouse::new, Check.INDEX, "29 carrier of none", 0, 4, (h, n) -> h.cash(n));
        Check.bounds(Proratehouse::new, Check.INDEX, "30 carrier of none", 0, 4, (h, n) -> h.cashAnew(n));
        Check.bounds(Proratehouse::new, Check.INDEX, "31 place of none", 0, 9, (h, n) -> h.state(n));
        Check.bounds(Proratehouse::new, Check.ARGUMENT, "33 what of none", 0, 5, (h, n) -> h.of(n));
        Check.answers(SOLD_OUT, 30, "33 the most tickets", h -> h.of(2));
        Check.answers(() -> FareTests.line(8), 8, "33 the most legs", h -> h.of(1));
        for (int day : new int[] {0, 999}) {
            Check.answers(() -> oneCoupon(day), day, "27 its day", h -> h.ofCoupon(0, 0, 4));
        }
        Check.answers(() -> two(1000, 0, 0), 1000, "26 all of the price stays", h -> h.ofTicket(0, 5));
        Check.answers(() -> two(1000, -1, 0), 0, "26 nothing stays", h -> h.ofTicket(0, 5));
        dearestTicket();
    }

    /** Eight parts of the dearest fare, with the greatest taxes. */
    private static void dearestTicket() {
        Proratehouse house = new Proratehouse();
        for (int k = 0; k < 8; k++) {
            house.miles(k, k + 1, 9999);
            house.fare(k, k + 1, 1000000, 0, 0, 0);
            house.tax(k, 10000, 10000);
        }
        for (int ticket = 0; ticket < 30; ticket++) {
            for (int k = 0; k < 8; k++) {
                house.leg(k, k + 1, 1, 0);
            }
            house.issue(0);
        }
        Check.due("26 the dearest price", 8000000, house.ofTicket(29, 0));
        Check.due("26 the greatest taxes", 80000, house.ofTicket(29, 1));
        Check.due("32 the most that is paid", 242400000, house.paid());
        Check.due("29 all of it", 242400000, house.cash(0));
        Check.due("30 all of it", 242400000, house.cashAnew(0));
        house.penalty(100);
        Check.due("19 the dearest refund takes all", 80000, house.refund(0));
        house.penalty(99);
        Check.due("19 the dearest refund gives one hundredth", 160000, house.refund(1));
        house.penalty(0);
        Check.due("19 the dearest refund", 8080000, house.refund(2));
        for (int k = 0; k < 8; k++) {
            house.fly(3, k);
        }
        Check.due("22 the dearest bills", 8000000, house.clear());
        Check.due("29 the carrier of them", 8000000, house.cash(1));
        TicketTests.money("29 to 32", house, 242400000 - 80000 - 160000 - 8080000,
                242400000 - 80000 - 160000 - 8080000 - 8080000, 8000000);
    }

    // ---- the calls of an object

    /** 3 calls, 270 for 30 tickets of eight coupons by carrier 1, and one for each of these flights. */
    private static Proratehouse busy(int flights) {
        Proratehouse house = thereAndBack();
        for (int ticket = 0; ticket < 30; ticket++) {
            for (int k = 0; k < 8; k++) {
                house.leg(k % 2, 1 - k % 2, 1, 0);
            }
            house.issue(0);
        }
        for (int k = 0; k < flights; k++) {
            Check.due("17 bill", k, house.fly(k / 8, k % 8));
        }
        return house;
    }

    private static void lastCallOfAnObject() {
        Check.Maker busy = () -> busy(238);
        Check.answers(busy, 238, "512th call: fly", h -> h.fly(29, 6));
        Check.answers(busy, 238, "512th call: bills", h -> h.of(3));
        Check.answers(busy, 30, "512th call: tickets", h -> h.of(2));
        Check.answers(busy, 238000, "512th call: clear", h -> h.clear());
        Check.answers(busy, 0, "512th call: ofBill", h -> h.ofBill(237, 5));
        Check.answers(busy, 2000, "512th call: refund", h -> h.refund(29));
        Check.answers(busy, 240000, "512th call: cash", h -> h.cash(0));
        Check.answers(busy, 240000, "512th call: cashAnew", h -> h.cashAnew(0));
        Check.refuses(busy, Check.INDEX, "512th call: no bill", h -> h.ofBill(238, 0));
        Check.refuses(busy, Check.STATE, "512th call: no journey", h -> h.issue(0));
        Check.Maker clearings = () -> {
            Proratehouse made = new Proratehouse();
            for (int k = 0; k < 511; k++) {
                made.clear();
            }
            return made;
        };
        Check.answers(clearings, 511, "512th call: clearings", h -> h.of(4));
        Check.answers(clearings, 0, "512th call: one more", h -> h.clear());
        Check.Maker refused = () -> {
            Proratehouse made = new Proratehouse();
            for (int k = 0; k < 511; k++) {
                refusedPass(made);
            }
            return made;
        };
        Check.answers(refused, 1, "512th call: behind 511 that were refused", h -> h.pass(1));
    }

    private static void refusedPass(Proratehouse house) {
        try {
            Check.due("21 pass(101) throws", -1, house.pass(101));
        } catch (IllegalArgumentException due) {
            Check.due("21 pass(101) throws", 1, 1);
        }
    }

    public static void main(String[] args) {
        issuersAtTheirEnds();
        daysOfIssue();
        couponsAndTaxes();
        provisosAtTheirEnds();
        missingCents();
        flightsAtTheirEnds();
        eightFlights();
        endorsementsAtTheirEnds();
        refundsAtTheirEnds();
        reissuesAtTheirEnds();
        daysAtTheirEnds();
        askedAtTheirEnds();
        lastCallOfAnObject();
        Check.end("promises 16 to 33 at their edges, but for clearing");
    }
}
