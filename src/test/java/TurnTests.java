/**
 * What single promises don't show: bills and coupons asked for all that is told of them at each turn
 * of their lives, what is set too late for a ticket, what a default leaves alone, journeys whose days
 * have gone by, and each call in a house in which everything is under way.
 */
public final class TurnTests {
    private static final int WAITS = 0;
    private static final int PAID = 1;
    private static final int BACK = 2;
    private static final int RETURNED = 3;
    private static final int CLOSED = 4;
    private static final Check.Maker BUSY = TurnTests::busy;

    private static void bill(String what, Proratehouse house, int bill, int... due) {
        for (int k = 0; k < due.length; k++) {
            Check.due(what + " bill " + bill + " what " + k, due[k], house.ofBill(bill, k));
        }
    }

    private static void coupon(String what, Proratehouse house, int ticket, int coupon, int... due) {
        for (int k = 0; k < due.length; k++) {
            Check.due(what + " coupon " + ticket + "/" + coupon + " what " + k, due[k],
                    house.ofCoupon(ticket, coupon, k));
        }
    }

    private static void ticket(String what, Proratehouse house, int ticket, int... due) {
        for (int k = 0; k < due.length; k++) {
            Check.due(what + " ticket " + ticket + " what " + k, due[k], house.ofTicket(ticket, k));
        }
    }

    // ---- the life of a bill

    /** One ticket of 999 by carrier 0, taxed 7 and flown by carrier 1. */
    private static Proratehouse flown() {
        Proratehouse house = new Proratehouse();
        house.miles(0, 1, 100);
        house.fare(0, 1, 999, 0, 999, 0);
        house.tax(0, 7, 0);
        house.leg(0, 1, 1, 0);
        house.issue(0);
        house.fly(0, 0);
        return house;
    }

    /** All that is told of the one bill, its coupon and the money, of which the payee has so much. */
    private static void turn(String what, Proratehouse house, int status, int rejections, int by, int got) {
        bill(what, house, 0, status, 999, 0, 1, rejections, by);
        coupon(what, house, 0, 0, Proratehouse.FLOWN, 999, 7, 1, 0, 0);
        ticket(what, house, 0, 999, 7, 0, 1, 0, 0);
        TicketTests.money(what, house, 1006, 999 - got, got);
        Check.due(what + " state", 7, house.state(0));
        Check.due(what + " bills", 1, house.of(3));
    }

    private static void lifeOfABill() {
        Proratehouse house = flown();
        turn("17 flown", house, WAITS, 0, 0, 0);
        Check.due("22", 999, house.clear());
        turn("22 the first clearing", house, PAID, 0, 1, 999);
        Check.due("23", 1, house.reject(0));
        turn("23 once", house, BACK, 1, 1, 999);
        Check.due("25 not undone", 0, house.fails(1, true));
        turn("25 rejected since", house, BACK, 1, 1, 999);
        house.fails(1, false);
        Check.due("22", 999, house.clear());
        turn("22 RETURNED", house, RETURNED, 1, 2, 0);
        Check.due("25", 1, house.fails(1, true));
        turn("25 undone RETURNED", house, BACK, 1, 0, 999);
        Check.due("22", 0, house.clear());
        turn("22 in default", house, BACK, 1, 0, 999);
        Check.due("25", 0, house.fails(1, false));
        Check.due("22", 999, house.clear());
        turn("22 RETURNED again", house, RETURNED, 1, 4, 0);
        house.rebill(0);
        turn("24 once", house, WAITS, 1, 4, 0);
        Check.due("25 not undone", 0, house.fails(0, true));
        turn("25 billed again since", house, WAITS, 1, 4, 0);
        Check.due("22", 0, house.clear());
        turn("22 the issuer in default", house, WAITS, 1, 4, 0);
        house.fails(0, false);
        Check.due("22", 999, house.clear());
        turn("22 PAID again", house, PAID, 1, 6, 999);
        Check.due("25", 1, house.fails(0, true));
        turn("25 undone PAID keeps its rejections", house, WAITS, 1, 0, 0);
        house.fails(0, false);
        house.clear();
        house.clear();
        turn("22 PAID by the one ahead", house, PAID, 1, 7, 999);
        Check.due("25 not by the latest", 0, house.fails(0, true));
        turn("25 not by the latest", house, PAID, 1, 7, 999);
        Check.due("23", 2, house.reject(0));
        turn("23 twice", house, BACK, 2, 7, 999);
        house.fails(0, false);
        Check.due("22", 999, house.clear());
        turn("22 RETURNED twice", house, RETURNED, 2, 9, 0);
        house.rebill(0);
        house.clear();
        turn("24 twice", house, PAID, 2, 10, 999);
        lastTurns(house);
    }

    private static void lastTurns(Proratehouse house) {
        Check.due("25", 1, house.fails(1, true));
        turn("25 undone PAID, rejected twice", house, WAITS, 2, 0, 0);
        house.fails(1, false);
        house.clear();
        Check.due("23", 3, house.reject(0));
        turn("23 the third time", house, BACK, 3, 11, 999);
        Check.due("22", 499, house.clear());
        turn("22 CLOSED", house, CLOSED, 3, 12, 500);
        Check.due("25", 1, house.fails(0, true));
        turn("25 undone CLOSED", house, BACK, 3, 0, 999);
        house.fails(0, false);
        Check.due("22", 499, house.clear());
        turn("22 CLOSED again", house, CLOSED, 3, 13, 500);
        Check.due("22", 0, house.clear());
        Check.due("25 not by the latest", 0, house.fails(1, true));
        turn("22 CLOSED for good", house, CLOSED, 3, 13, 500);
    }

    // ---- the life of a coupon

    private static void livesOfCoupons() {
        Proratehouse house = TicketTests.sold();
        house.endorse(0, 0, 4);
        house.endorse(0, 1, 3);
        house.endorse(0, 2, 1);
        int[][] endorsed = {{0, 1000, 10, 4, 0, -1}, {0, 1000, 2, 3, 0, -1}, {0, 1000, 30, 1, 2, -1}};
        for (int k = 0; k < 3; k++) {
            coupon("18 endorsed", house, 0, k, endorsed[k]);
        }
        Check.due("17 of the new carrier", 0, house.fly(0, 1));
        bill("17 of the new carrier", house, 0, WAITS, 1000, 0, 3, 0, 0);
        coupon("17 void", house, 0, 0, Proratehouse.VOID, 1000, 10, 4, 0, -1);
        coupon("17 flown", house, 0, 1, Proratehouse.FLOWN, 1000, 2, 3, 0, 0);
        coupon("17 still OPEN", house, 0, 2, Proratehouse.OPEN, 1000, 30, 1, 2, -1);
        house.pass(9);
        Check.due("19 its day has gone by", 1030, house.refund(0));
        coupon("19 void stays", house, 0, 0, Proratehouse.VOID, 1000, 10, 4, 0, -1);
        coupon("19 flown stays", house, 0, 1, Proratehouse.FLOWN, 1000, 2, 3, 0, 0);
        coupon("19 refunded", house, 0, 2, Proratehouse.REFUNDED, 1000, 30, 1, 2, -1);
        ticket("19 all as it was sold", house, 0, 3000, 42, 0, 3, 6, 0);
        TicketTests.money("19", house, 3042 - 1030, 3042 - 1030 - 2);
        house = TicketTests.sold();
        house.endorse(0, 2, 1);
        house.fly(0, 1);
        house.wipe();
        house.pass(9);
        house.leg(2, 3, 0, 9);
        Check.due("20 its day has gone by", 0, house.reissue(0));
        coupon("20 void stays", house, 0, 0, Proratehouse.VOID, 1000, 10, 0, 0, -1);
        coupon("20 flown stays", house, 0, 1, Proratehouse.FLOWN, 1000, 2, 1, 0, 0);
        coupon("20 exchanged", house, 0, 2, Proratehouse.EXCHANGED, 1000, 30, 1, 2, -1);
        coupon("20 its new one", house, 1, 0, Proratehouse.OPEN, 1000, 30, 0, 9, -1);
        ticket("20 all as it was sold", house, 0, 3000, 42, 0, 3, 6, 0);
        ticket("20 its new one", house, 1, 1000, 30, 0, 1, 0, 0);
        house = flown();
        house.clear();
        house.reject(0);
        house.clear();
        coupon("27 its bill stays", house, 0, 0, Proratehouse.FLOWN, 999, 7, 1, 0, 0);
    }

    // ---- shares

    /** Coupons of 100, 200 and 300 miles and 1001 cents: what is missing, and to which it is added. */
    private static void lastOfTheOthers() {
        // provisos of the three, -1 for none, and the shares
        int[][] rows = {{-1, -1, 0, 333, 668, 0}, {-1, -1, 1, 333, 667, 1}, {-1, -1, 500, 167, 334, 500},
            {-1, 500, -1, 125, 500, 376}, {500, -1, -1, 500, 200, 301}, {0, -1, 3, 0, 998, 3},
            {7, 8, -1, 7, 8, 986}, {-1, 7, 8, 986, 7, 8}, {-1, -1, -1, 166, 333, 502}};
        for (int[] row : rows) {
            Proratehouse house = TicketTests.whole(1001);
            for (int k = 0; k < 3; k++) {
                house.proviso(k, k, k + 1, row[k]);
            }
            String what = "16 provisos " + row[0] + ", " + row[1] + ", " + row[2];
            TicketTests.shares(what, house, TicketTests.soldWhole(house), row[3], row[4], row[5]);
            ticket(what, house, 0, 1001, 0, 4, 3, 0, 0);
        }
    }

    // ---- what is set too late

    private static void setBehindTheTicket() {
        Proratehouse house = TicketTests.whole(1001);
        house.tax(0, 10, 1);
        TicketTests.soldWhole(house);
        TicketTests.travel(house);
        int[][] due = {{0, 166, 10, 0, 0, -1}, {0, 333, 0, 1, 0, -1}, {0, 502, 0, 2, 2, -1}};
        house.unit(1000);
        house.weight(0, 1, 9999);
        house.miles(1, 2, 230);
        house.proviso(0, 0, 1, 900);
        house.proviso(2, 2, 3, 900);
        for (int place = 0; place < 10; place++) {
            house.tax(place, 10000, 10000);
        }
        house.fare(0, 3, 1, 0, 999, 7);
        house.withdraw(0);
        house.penalty(7);
        for (int k = 0; k < 3; k++) {
            coupon("16 as it was issued", house, 0, k, due[k]);
        }
        ticket("16 as it was issued", house, 0, 1001, 10, 4, 3, 0, 0);
        Check.due("13 the journey is priced anew", 1000, house.price());
        house.fly(0, 0);
        Check.due("17 the tax of then", 10, house.state(0));
        bill("17 the share of then", house, 0, WAITS, 166, 4, 0, 0, 0);
        house.fly(0, 1);
        Check.due("17 no tax then", 0, house.state(1));
        bill("17 the share of then", house, 1, WAITS, 333, 4, 1, 0, 0);
        Check.due("19 the penalty of now, the share of then", 502 - 36, house.refund(0));
        Check.due("16 anew", 1, house.issue(4));
        ticket("16 all is of now", house, 1, 1000, 30000, 4, 3, 0, 0);
        TicketTests.shares("16 all is of now", house, 1, 900, 0, 100);
    }

    // ---- journeys whose days have gone by

    private static void journeysOfYesterday() {
        Check.Maker made = () -> {
            Proratehouse house = TicketTests.priced();
            house.miles(0, 2, 200);
            house.fare(0, 2, 1500, 0, 999, 0);
            house.pass(5);
            return house;
        };
        Check.answers(made, 3, "33 the legs stay", h -> h.of(1));
        Check.answers(made, 2500, "13 of yesterday", h -> h.price());
        Check.answers(made, 2500, "14 of yesterday", h -> h.priceAnew());
        Check.answers(made, 4, "15 of yesterday", h -> h.cuts());
        Check.answers(made, 1500, "12 of yesterday", h -> h.part(0, 2));
        Check.answers(made, 4, "10 behind legs of yesterday", h -> h.leg(3, 4, 0, 5));
        Check.answers(made, 3, "11 of yesterday", h -> h.wipe());
        Check.refuses(made, Check.ARGUMENT, "10 yesterday", h -> h.leg(3, 4, 0, 4));
        Check.refuses(made, Check.STATE, "16 of yesterday", h -> h.issue(0));
        Proratehouse house = made.make();
        house.leg(3, 4, 0, 999);
        Check.due("13 a leg far ahead", 3500, house.price());
        Check.due("17 a fare that is withdrawn", 3500, house.priceAnew());
        house.withdraw(4);
        Check.due("13 withdrawn", 4000, house.price());
        house.wipe();
        TicketTests.travel(house);
        Check.due("16 anew, of today", 0, house.issue(3));
    }

    /** Fares that are not in force yet, or any more, are withdrawn all the same. */
    private static void faresOfOtherDays() {
        Check.Maker made = () -> {
            Proratehouse house = new Proratehouse();
            house.fare(0, 1, 5, 0, 3, 0);
            house.fare(0, 1, 5, 9, 9, 0);
            house.pass(5);
            return house;
        };
        for (int fare = 0; fare < 2; fare++) {
            int each = fare;
            Check.lets(made, "4 not in force today", h -> withdrawn(h, each));
            Check.Maker gone = () -> {
                Proratehouse house = made.make();
                house.withdraw(each);
                return house;
            };
            Check.refuses(gone, Check.STATE, "4 twice", h -> withdrawn(h, each));
        }
        Check.answers(Proratehouse::new, 0, "7 a pair without miles", h -> h.weight(8, 9, 5));
        Check.answers(Proratehouse::new, -1, "8 a pair without miles", h -> h.proviso(4, 8, 9, 5));
        Check.answers(Proratehouse::new, 0, "3 a pair without miles", h -> h.fare(8, 9, 5, 0, 0, 0));
    }

    private static long withdrawn(Proratehouse house, int fare) {
        house.withdraw(fare);
        return 0;
    }

    // ---- what a default leaves alone

    private static void defaultsLeaveTicketsAlone() {
        Check.Maker made = () -> {
            Proratehouse house = TicketTests.sold();
            for (int carrier = 0; carrier < 5; carrier++) {
                house.fails(carrier, true);
            }
            return house;
        };
        Check.answers(made, 1, "16 in default", h -> h.issue(0));
        Check.answers(made, -1, "17 in default", h -> h.fly(0, 0));
        Check.answers(made, 0, "17 a bill in default", h -> h.fly(0, 1));
        Check.answers(made, 1, "18 in default", h -> h.endorse(0, 1, 3));
        Check.answers(made, 3042, "19 in default", h -> h.refund(0));
        Check.answers(made, 0, "20 in default", h -> h.reissue(0));
        Check.answers(made, 4, "10 in default", h -> h.leg(3, 4, 2, 2));
        Check.answers(made, 3000, "13 in default", h -> h.price());
        Check.answers(made, 1, "21 in default", h -> h.pass(1));
        Check.answers(made, -1, "8 in default", h -> h.proviso(1, 1, 2, 5));
        Proratehouse house = made.make();
        house.fly(0, 1);
        Check.due("22 in default", 0, house.clear());
        bill("22 in default", house, 0, WAITS, 1000, 0, 1, 0, 0);
        house.fails(1, false);
        Check.due("22 the issuer still is", 0, house.clear());
        house.fails(0, false);
        Check.due("22 others still are", 1000, house.clear());
        bill("22 others still are", house, 0, PAID, 1000, 0, 1, 0, 3);
        Check.due("33 others still are", 28, house.of(5));
    }

    // ---- everything under way

    private static Proratehouse settings() {
        Proratehouse house = new Proratehouse();
        house.miles(0, 1, 100);
        house.miles(1, 2, 200);
        house.miles(2, 3, 300);
        house.miles(0, 2, 250);
        house.miles(1, 3, 400);
        house.fare(0, 1, 1000, 0, 999, 7);
        house.fare(1, 2, 2000, 0, 999, 7);
        house.fare(2, 3, 3000, 0, 999, 7);
        house.fare(0, 2, 2510, 0, 999, 1);
        house.fare(1, 3, 4010, 0, 999, 7);
        house.fare(2, 3, 1, 0, 999, 7);
        house.fare(0, 1, 1, 0, 1, 7);
        house.fare(0, 1, 1, 4, 4, 7);
        house.withdraw(5);
        house.unit(50);
        house.penalty(10);
        house.weight(1, 2, 100);
        house.proviso(3, 2, 3, 700);
        for (int place = 0; place < 4; place++) {
            house.tax(place, 10 * (place + 1), place + 1);
        }
        house.pass(2);
        return house;
    }

    private static int sell(Proratehouse house, int issuer) {
        house.leg(0, 1, 0, 2);
        house.leg(1, 2, 1, 2);
        house.leg(2, 3, 2, 3);
        return house.issue(issuer);
    }

    /**
     * Day 3, carrier 4 in default, seven tickets and a journey of two legs; the bills 0 to 4 are
     * CLOSED, BACK, RETURNED, PAID and WAITS, by eight clearings.
     */
    private static Proratehouse busy() {
        Proratehouse house = settings();
        for (int issuer = 0; issuer < 3; issuer++) {
            sell(house, issuer);
        }
        house.leg(0, 1, 4, 2);
        house.issue(3);
        house.leg(2, 3, 3, 5);
        house.issue(4);
        house.fly(1, 0);
        for (int turn = 0; turn < 3; turn++) {
            house.clear();
            house.reject(0);
            house.clear();
            if (turn < 2) {
                house.rebill(0);
            }
        }
        house.fly(0, 0);
        house.fly(0, 1);
        house.pass(1);
        house.fly(0, 2);
        house.fly(2, 0);
        house.clear();
        house.reject(2);
        house.clear();
        house.reject(1);
        house.fails(4, true);
        house.fly(3, 0);
        house.refund(4);
        house.leg(1, 2, 2, 4);
        house.issue(1);
        house.leg(1, 2, 3, 4);
        house.reissue(5);
        house.leg(0, 1, 0, 3);
        house.leg(1, 2, 3, 4);
        return house;
    }

    private static void toldOfTheBusyHouse() {
        Proratehouse house = busy();
        int[] of = {3, 2, 7, 5, 8, 16};
        for (int what = 0; what < of.length; what++) {
            Check.due("33 busy " + what, of[what], house.of(what));
        }
        // 1000, and 4010 more by 5 hundredths, rounded up to 4250, shared by 100 to 300
        for (int ticket = 0; ticket < 3; ticket++) {
            ticket("26 busy", house, ticket, 5250, 42, ticket, 3, 2, 0);
            TicketTests.shares("16 busy", house, ticket, 1000, 1062, 3188);
        }
        ticket("26 busy", house, 3, 1000, 10, 3, 1, 0, 0);
        ticket("26 busy", house, 4, 3000, 30, 4, 1, 0, 2300);
        ticket("26 busy", house, 5, 2000, 20, 1, 1, 0, 0);
        ticket("26 busy", house, 6, 2000, 20, 1, 1, 0, 0);
        TicketTests.statuses("27 busy", house, 0, 1, 1, 1);
        TicketTests.statuses("27 busy", house, 1, 1, 0, 0);
        TicketTests.statuses("27 busy", house, 2, 1, 0, 0);
        coupon("27 busy", house, 3, 0, 1, 1000, 10, 4, 2, 4);
        coupon("27 busy", house, 4, 0, 3, 700, 30, 3, 5, -1);
        coupon("27 busy", house, 5, 0, 4, 2000, 20, 2, 4, -1);
        coupon("27 busy", house, 6, 0, 0, 2000, 20, 3, 4, -1);
        bill("28 busy", house, 0, CLOSED, 1000, 1, 0, 3, 6);
        bill("28 busy", house, 1, BACK, 1062, 0, 1, 1, 7);
        bill("28 busy", house, 2, RETURNED, 3188, 0, 2, 1, 8);
        bill("28 busy", house, 3, PAID, 1000, 2, 0, 0, 7);
        bill("28 busy", house, 4, WAITS, 1000, 3, 4, 0, 0);
        // the buyers: three of 5292, 1010, 3030 less 660, 2020, and nothing
        TicketTests.money("32 busy", house, 3 * 5292 + 1010 + 3030 - 660 + 2020,
                5292 - 42 + 500 - 1062 + 1000, 5292 - 10 - 500 + 1062 + 2020, 5292 - 10 - 1000,
                1010 - 10, 3030 - 660);
        long[] states = {40, 2, 30, 0, 0, 0, 0, 0, 0, 0};
        for (int place = 0; place < 10; place++) {
            Check.due("31 busy", states[place], house.state(place));
        }
    }

    private static void callsOfTheBusyHouse() {
        Check.answers(BUSY, 250, "2 busy", h -> h.miles(2, 0, 999));
        Check.answers(BUSY, 8, "3 busy", h -> h.fare(0, 1, 1, 0, 0, 0));
        Check.lets(BUSY, "4 busy", h -> withdrawn(h, 6));
        Check.answers(BUSY, 50, "5 busy", h -> h.unit(1));
        Check.lets(BUSY, "6 busy", h -> taxed(h, 0, 1, 1));
        Check.answers(BUSY, 100, "7 busy", h -> h.weight(2, 1, 0));
        Check.answers(BUSY, 700, "8 busy", h -> h.proviso(3, 2, 3, -1));
        Check.answers(BUSY, 10, "9 busy", h -> h.penalty(0));
        Check.answers(BUSY, 3, "10 busy", h -> h.leg(2, 3, 4, 4));
        Check.answers(BUSY, 2, "11 busy", h -> h.wipe());
        Check.answers(BUSY, 1000, "12 busy", h -> h.part(0, 1));
        Check.answers(BUSY, 2550, "12 busy", h -> h.part(0, 2));
        Check.answers(BUSY, 2550, "13 busy", h -> h.price());
        Check.answers(BUSY, 2550, "14 busy", h -> h.priceAnew());
        Check.answers(BUSY, 0, "15 busy", h -> h.cuts());
        Check.answers(BUSY, 7, "16 busy", h -> h.issue(4));
        Check.answers(BUSY, -1, "17 busy", h -> h.fly(1, 1));
        Check.answers(BUSY, 5, "17 busy", h -> h.fly(1, 2));
        Check.answers(BUSY, 2, "18 busy", h -> h.endorse(1, 2, 4));
        // 4250 less 425, and 2 + 30; 2000 less 200, and 20
        Check.answers(BUSY, 3857, "19 busy", h -> h.refund(1));
        Check.answers(BUSY, 1820, "19 busy", h -> h.refund(6));
        // 2550 + 10 + 20 for 4250 + 32, or for 2020
        Check.answers(BUSY, -1702, "20 busy", h -> h.reissue(2));
        Check.answers(BUSY, 560, "20 busy", h -> h.reissue(6));
        Check.answers(BUSY, 4, "21 busy", h -> h.pass(1));
        Check.answers(BUSY, 1062, "22 busy", h -> h.clear());
        Check.answers(BUSY, 1, "23 busy", h -> h.reject(3));
        Check.lets(BUSY, "24 busy", h -> rebilled(h, 2));
        Check.answers(BUSY, 1, "25 busy", h -> h.fails(2, true));
        Check.answers(BUSY, 0, "25 busy", h -> h.fails(1, true));
        Check.answers(BUSY, 0, "25 busy", h -> h.fails(4, false));
    }

    private static long taxed(Proratehouse house, int place, int departs, int changes) {
        house.tax(place, departs, changes);
        return 0;
    }

    private static long rebilled(Proratehouse house, int bill) {
        house.rebill(bill);
        return 0;
    }

    /** What the calls leave behind in the busy house, and no others change. */
    private static void leftByTheBusyHouse() {
        Proratehouse house = busy();
        house.clear();
        int[] statuses = {CLOSED, RETURNED, RETURNED, PAID, WAITS};
        int[] clearings = {6, 9, 8, 7, 0};
        for (int k = 0; k < 5; k++) {
            ClearingTests.told("22 left", house, k, statuses[k], house.ofBill(k, 4), clearings[k]);
        }
        house.fails(0, true);
        bill("25 left", house, 1, BACK, 1062, 0, 1, 1, 0);
        bill("25 left", house, 2, RETURNED, 3188, 0, 2, 1, 8);
        bill("25 left", house, 3, PAID, 1000, 2, 0, 0, 7);
        house = busy();
        house.fails(2, true);
        bill("25 left", house, 2, BACK, 3188, 0, 2, 1, 0);
        bill("25 left", house, 3, PAID, 1000, 2, 0, 0, 7);
        ClearingTests.cash("25 left", house, 5688 - 3188, 7864, 4282 + 3188, 1000, 2370);
        house = busy();
        house.reissue(2);
        TicketTests.statuses("20 left", house, 2, 1, 4, 4);
        ticket("20 left", house, 7, 2550, 30, 2, 2, 0, 0);
        coupon("20 left", house, 7, 0, 0, 1275, 10, 0, 3, -1);
        coupon("20 left", house, 7, 1, 0, 1275, 20, 3, 4, -1);
        ClearingTests.cash("20 left", house, 5688, 7864, 4282 - 1702, 1000, 2370);
        house = busy();
        house.pass(1);
        Check.due("12 a fare of day 4 alone", 50, house.part(0, 1));
        Check.due("13 by it", 2050, house.price());
        Check.due("14 by it", 2050, house.priceAnew());
        Check.due("15 by it", 2, house.cuts());
    }

    public static void main(String[] args) {
        lifeOfABill();
        livesOfCoupons();
        lastOfTheOthers();
        setBehindTheTicket();
        journeysOfYesterday();
        faresOfOtherDays();
        defaultsLeaveTicketsAlone();
        toldOfTheBusyHouse();
        callsOfTheBusyHouse();
        leftByTheBusyHouse();
        Check.end("what single promises don't show");
    }
}
