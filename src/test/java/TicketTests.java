/** Promises 16 to 21, 26, 27 and 29 to 33: tickets, their coupons, and money, reckoned by hand. */
public final class TicketTests {
    private static final int PRICE = 0;
    private static final int TAXES = 1;
    private static final int CUTS = 4;
    private static final int UNSHARED = 5;
    private static final int SHARE = 1;
    private static final int TAX = 2;

    /** Places 0 to 4 in a row, 100 miles and a fare of 1000 by each step, taxes 10, 20 .. and 1, 2 .. */
    static Proratehouse row() {
        Proratehouse house = new Proratehouse();
        for (int k = 0; k < 4; k++) {
            house.miles(k, k + 1, 100);
            house.fare(k, k + 1, 1000, 0, 999, 7);
        }
        for (int k = 0; k < 5; k++) {
            house.tax(k, 10 * (k + 1), k + 1);
        }
        return house;
    }

    /** 0 - 1 - 2 - 3 by the carriers 0, 1 and 2 on the days 0, 0 and 2; taxes 10, 2 and 30. */
    static void travel(Proratehouse house) {
        house.leg(0, 1, 0, house.of(0));
        house.leg(1, 2, 1, house.of(0));
        house.leg(2, 3, 2, house.of(0) + 2);
    }

    static Proratehouse priced() {
        Proratehouse house = row();
        travel(house);
        return house;
    }

    /** One ticket by carrier 0 as above, and the same journey again. */
    static Proratehouse sold() {
        Proratehouse house = priced();
        house.issue(0);
        travel(house);
        return house;
    }

    /** The ticket of three coupons in one part of 600 miles, of some cents. */
    static Proratehouse whole(int cents) {
        Proratehouse house = new Proratehouse();
        house.miles(0, 1, 100);
        house.miles(1, 2, 200);
        house.miles(2, 3, 300);
        house.miles(0, 3, 600);
        house.fare(0, 3, cents, 0, 999, 7);
        return house;
    }

    static int soldWhole(Proratehouse house) {
        travel(house);
        return house.issue(4);
    }

    static void shares(String what, Proratehouse house, int ticket, int... due) {
        for (int k = 0; k < due.length; k++) {
            Check.due(what + " share " + k, due[k], house.ofCoupon(ticket, k, SHARE));
        }
    }

    static void money(String what, Proratehouse house, int paid, int... cash) {
        Check.due(what + " paid", paid, house.paid());
        long sum = 0;
        for (int k = 0; k < 5; k++) {
            Check.due(what + " cash " + k, k < cash.length ? cash[k] : 0, house.cash(k));
            Check.due(what + " cashAnew " + k, house.cash(k), house.cashAnew(k));
            sum += house.cash(k);
        }
        for (int k = 0; k < 10; k++) {
            sum += house.state(k);
        }
        Check.due(what + " all money", house.paid(), sum);
    }

    static void statuses(String what, Proratehouse house, int ticket, int... due) {
        for (int k = 0; k < due.length; k++) {
            Check.due(what + " status " + k, due[k], house.ofCoupon(ticket, k, 0));
        }
    }

    static Proratehouse soldOut() {
        Proratehouse house = row();
        for (int k = 0; k < 30; k++) {
            house.leg(0, 1, 0, 0);
            Check.due("16 number", k, house.issue(k % 5));
        }
        house.leg(0, 1, 0, 0);
        return house;
    }

    private static void promise16() {
        Proratehouse house = priced();
        Check.due("16 the first", 0, house.issue(0));
        Check.due("16 the journey begins anew", 0, house.of(1));
        Check.due("16 one ticket", 1, house.of(2));
        money("16", house, 3042, 3042);
        statuses("16", house, 0, 0, 0, 0);
        shares("16", house, 0, 1000, 1000, 1000);
        travel(house);
        Check.due("16 the second", 1, house.issue(4));
        money("16", house, 6084, 3042, 0, 0, 0, 3042);
        for (int none : Check.NO_CARRIERS) {
            Check.refuses(TicketTests::priced, Check.INDEX, "16 carrier", h -> h.issue(none));
            Check.refuses(TicketTests::row, Check.INDEX, "16 carrier, no leg", h -> h.issue(none));
        }
        Check.refuses(TicketTests::row, Check.STATE, "16 no leg", h -> h.issue(0));
        Check.Maker dear = () -> {
            Proratehouse made = priced();
            made.withdraw(1);
            return made;
        };
        Check.refuses(dear, Check.STATE, "16 no price", h -> h.issue(0));
        Check.Maker late = () -> {
            Proratehouse made = priced();
            made.pass(1);
            return made;
        };
        Check.refuses(late, Check.STATE, "16 a leg of yesterday", h -> h.issue(0));
        Check.Maker half = () -> {
            Proratehouse made = row();
            made.leg(0, 1, 0, 0);
            made.leg(1, 2, 0, 7);
            made.pass(1);
            return made;
        };
        Check.refuses(half, Check.STATE, "16 only the first of yesterday", h -> h.issue(0));
        Check.refuses(TicketTests::soldOut, Check.STATE, "16 sold out", h -> h.issue(0));
        sharesByWeights();
        sharesByProvisos();
        sharesOfParts();
    }

    private static void sharesByWeights() {
        Proratehouse house = whole(1001);
        shares("16 by miles", house, soldWhole(house), 166, 333, 502);
        house.weight(1, 2, 1);
        shares("16 by weights", house, soldWhole(house), 249, 2, 750);
        house.weight(2, 1, 9999);
        house.weight(0, 1, 9999);
        house.weight(3, 2, 9998);
        shares("16 by great weights", house, soldWhole(house), 333, 333, 335);
        house.weight(1, 2, 0);
        house.weight(0, 1, 0);
        house.weight(3, 2, 0);
        house.miles(0, 1, 200);
        shares("16 by miles told anew", house, soldWhole(house), 286, 286, 429);
        shares("16 those of the first stay", house, 0, 166, 333, 502);
        Proratehouse near = new Proratehouse();
        near.miles(0, 1, 1);
        near.fare(0, 1, 77, 0, 999, 0);
        near.leg(0, 1, 0, 0);
        shares("16 one mile", near, near.issue(0), 77);
        house = whole(1000000);
        for (int k = 0; k < 3; k++) {
            house.weight(k, k + 1, 9999);
        }
        shares("16 of many cents", house, soldWhole(house), 333333, 333333, 333334);
    }

    private static void sharesByProvisos() {
        Proratehouse house = whole(1001);
        house.proviso(1, 1, 2, 600);
        shares("16 one proviso", house, soldWhole(house), 100, 600, 301);
        house.proviso(0, 1, 0, 5);
        house.proviso(1, 0, 1, 5);
        shares("16 of others", house, soldWhole(house), 100, 600, 301);
        house.proviso(0, 0, 1, 500);
        shares("16 by numbers", house, soldWhole(house), 500, 501, 0);
        house.proviso(2, 2, 3, 7);
        shares("16 at most what is left", house, soldWhole(house), 500, 501, 0);
        Check.due("16 nothing stays", 0, house.ofTicket(3, UNSHARED));
        house.proviso(0, 0, 1, 0);
        house.proviso(1, 1, 2, 3);
        shares("16 without others", house, soldWhole(house), 0, 3, 7);
        Check.due("16 what stays", 991, house.ofTicket(4, UNSHARED));
        house.proviso(1, 1, 2, -1);
        shares("16 one of 0 is one", house, soldWhole(house), 0, 994, 7);
        house.proviso(2, 2, 3, -1);
        house.proviso(1, 1, 2, 1);
        shares("16 the last of the others", house, soldWhole(house), 0, 1, 1000);
        house.proviso(0, 0, 1, -1);
        shares("16 the last of the others", house, soldWhole(house), 250, 1, 750);
        house.proviso(2, 2, 3, 0);
        shares("16 the first is the last of these", house, soldWhole(house), 1000, 1, 0);
        money("16 no coupon is paid for yet", house, 9009, 0, 0, 0, 0, 9009);
    }

    private static void sharesOfParts() {
        Proratehouse house = row();
        house.miles(1, 3, 200);
        house.fare(1, 3, 1501, 0, 999, 7);
        house.proviso(0, 0, 1, 300);
        house.proviso(3, 3, 4, 900);
        house.leg(0, 1, 0, 0);
        house.leg(1, 2, 1, 0);
        house.leg(2, 3, 2, 0);
        house.leg(3, 4, 3, 0);
        Check.due("16 issued", 0, house.issue(1));
        shares("16 each part by itself", house, 0, 300, 750, 751, 900);
        Check.due("16 what stays of all parts", 800, house.ofTicket(0, UNSHARED));
        Check.due("16 cuts", 2 + 8, house.ofTicket(0, CUTS));
        Check.due("16 price", 3501, house.ofTicket(0, PRICE));
    }

    private static void promise17() {
        Proratehouse house = sold();
        Check.due("17 by the issuer", -1, house.fly(0, 0));
        Check.due("17 tax of 0", 10, house.state(0));
        money("17", house, 3042, 3032);
        Check.due("17 by another", 0, house.fly(0, 1));
        Check.due("17 tax of 1", 2, house.state(1));
        money("17", house, 3042, 3030);
        statuses("17", house, 0, 1, 1, 0);
        house.pass(2);
        Check.due("17 on its day", 1, house.fly(0, 2));
        statuses("17", house, 0, 1, 1, 1);
        Check.due("17 two bills", 2, house.of(3));
        flownOutOfOrder();
        Check.refuses(TicketTests::sold, Check.INDEX, "17 ticket below", h -> h.fly(-1, 0));
        Check.refuses(TicketTests::sold, Check.INDEX, "17 ticket above", h -> h.fly(1, 0));
        Check.refuses(TicketTests::sold, Check.INDEX, "17 ticket far", h -> h.fly(30, 0));
        Check.refuses(TicketTests::sold, Check.INDEX, "17 coupon below", h -> h.fly(0, -1));
        Check.refuses(TicketTests::sold, Check.INDEX, "17 coupon above", h -> h.fly(0, 3));
        Check.refuses(TicketTests::sold, Check.INDEX, "17 coupon far", h -> h.fly(0, 8));
        Check.refuses(TicketTests::sold, Check.STATE, "17 to come", h -> h.fly(0, 2));
        for (int coupon = 0; coupon < 3; coupon++) {
            int each = coupon;
            Check.refuses(TicketTests::used, Check.STATE, "17 not OPEN", h -> h.fly(0, each));
            Check.refuses(TicketTests::used, Check.STATE, "17 refunded", h -> h.fly(1, each));
            Check.refuses(TicketTests::used, Check.STATE, "17 exchanged", h -> h.fly(2, each));
        }
    }

    /** A flown ticket with a void coupon, a refunded one, an exchanged one, and its new one. */
    static Proratehouse used() {
        Proratehouse house = priced();
        for (int k = 0; k < 3; k++) {
            house.issue(k);
            travel(house);
        }
        house.pass(2);
        house.wipe();
        travel(house);
        house.fly(0, 1);
        house.fly(0, 2);
        house.refund(1);
        house.reissue(2);
        travel(house);
        return house;
    }

    private static void flownOutOfOrder() {
        Proratehouse house = sold();
        house.pass(2);
        Check.due("17 the last one first", 0, house.fly(0, 2));
        statuses("17 void", house, 0, 2, 2, 1);
        Check.due("17 tax of 2", 30, house.state(2));
        Check.due("17 no tax of 0", 0, house.state(0));
        money("17 void", house, 3042, 3012);
        house = sold();
        house.fly(0, 0);
        house.pass(7);
        house.fly(0, 2);
        statuses("17 flown stays", house, 0, 1, 2, 1);
        house = sold();
        house.fly(0, 1);
        statuses("17 the later one is OPEN", house, 0, 2, 1, 0);
        house = row();
        house.proviso(3, 0, 1, 0);
        house.leg(0, 1, 3, 0);
        house.issue(0);
        Check.due("17 a bill of nothing", 0, house.fly(0, 0));
        Check.due("17 its amount", 0, house.ofBill(0, 1));
    }

    private static void promise18() {
        Proratehouse house = sold();
        Check.due("18 before", 0, house.endorse(0, 0, 3));
        Check.due("18 again", 3, house.endorse(0, 0, 0));
        Check.due("18 the second", 1, house.endorse(0, 1, 0));
        Check.due("18 the third", 2, house.endorse(0, 2, 4));
        Check.due("18 carrier", 4, house.ofCoupon(0, 2, 3));
        shares("18", house, 0, 1000, 1000, 1000);
        Check.due("18 to the issuer, no bill", -1, house.fly(0, 1));
        house.pass(2);
        Check.due("18 to another, a bill", 0, house.fly(0, 2));
        Check.due("18 to whom", 4, house.ofBill(0, 3));
        for (int none : Check.NO_CARRIERS) {
            Check.refuses(TicketTests::used, Check.INDEX, "18 carrier", h -> h.endorse(0, 0, none));
        }
        Check.refuses(TicketTests::sold, Check.INDEX, "18 ticket", h -> h.endorse(1, 0, 1));
        Check.refuses(TicketTests::sold, Check.INDEX, "18 ticket", h -> h.endorse(-1, 0, 1));
        Check.refuses(TicketTests::sold, Check.INDEX, "18 coupon", h -> h.endorse(0, 3, 1));
        Check.refuses(TicketTests::sold, Check.INDEX, "18 coupon", h -> h.endorse(0, -1, 1));
        Check.refuses(TicketTests::sold, Check.STATE, "18 by it", h -> h.endorse(0, 1, 1));
        for (int ticket = 0; ticket < 3; ticket++) {
            int each = ticket;
            Check.refuses(TicketTests::used, Check.STATE, "18 not OPEN", h -> h.endorse(each, 1, 4));
        }
    }

    private static void promise19() {
        Proratehouse house = sold();
        Check.due("19 all of it", 3042, house.refund(0));
        statuses("19", house, 0, 3, 3, 3);
        money("19", house, 0);
        house = sold();
        house.penalty(1);
        house.fly(0, 1);
        Check.due("19 what is left", 1000 - 10 + 30, house.refund(0));
        statuses("19", house, 0, 2, 1, 3);
        money("19", house, 3042 - 1020, 3042 - 1020 - 2);
        house = whole(1001);
        soldWhole(house);
        house.penalty(1);
        Check.due("19 rounded up", 1001 - 11, house.refund(0));
        soldWhole(house);
        house.penalty(100);
        Check.due("19 all of the shares", 0, house.refund(1));
        soldWhole(house);
        house.fly(2, 1);
        house.penalty(33);
        Check.due("19 of 502 less 165.66", 336, house.refund(2));
        house = whole(1001);
        for (int k = 0; k < 3; k++) {
            house.proviso(k, k, k + 1, 10);
        }
        soldWhole(house);
        Check.due("19 what stays is not given back", 30, house.refund(0));
        money("19", house, 971, 0, 0, 0, 0, 971);
        Check.refuses(TicketTests::sold, Check.INDEX, "19 below", h -> h.refund(-1));
        Check.refuses(TicketTests::sold, Check.INDEX, "19 above", h -> h.refund(1));
        for (int ticket = 0; ticket < 3; ticket++) {
            int each = ticket;
            Check.refuses(TicketTests::used, Check.STATE, "19 none OPEN", h -> h.refund(each));
        }
    }

    private static void promise20() {
        Proratehouse house = sold();
        house.penalty(50);
        Check.due("20 the same again", 0, house.reissue(0));
        statuses("20", house, 0, 4, 4, 4);
        statuses("20", house, 1, 0, 0, 0);
        Check.due("20 two tickets", 2, house.of(2));
        Check.due("20 the journey begins anew", 0, house.of(1));
        Check.due("20 by the same carrier", 0, house.ofTicket(1, 2));
        money("20", house, 3042, 3042);
        house.leg(3, 4, 1, 0);
        Check.due("20 for less", 1040 - 3042, house.reissue(1));
        Check.due("20 its price is whole", 1000, house.ofTicket(2, PRICE));
        money("20", house, 1040, 1040);
        house.leg(3, 4, 1, 0);
        house.leg(4, 3, 1, 0);
        Check.refuses(TicketTests::sold, Check.INDEX, "20 below", h -> h.reissue(-1));
        Check.refuses(TicketTests::sold, Check.INDEX, "20 above", h -> h.reissue(1));
        house = sold();
        house.fly(0, 1);
        Check.due("20 for more", 3042 - 1030, house.reissue(0));
        statuses("20 one was flown", house, 0, 2, 1, 4);
        money("20 one was flown", house, 3042 + 2012, 3040 + 2012);
        Check.due("20 is refunded whole", 3042, house.refund(1));
        money("20 refunded", house, 2012, 2010);
        Check.refuses(TicketTests::soldOut, Check.INDEX, "20 no such", h -> h.reissue(30));
        Check.refuses(TicketTests::soldOut, Check.STATE, "20 sold out", h -> h.reissue(0));
        for (int ticket = 0; ticket < 3; ticket++) {
            int each = ticket;
            Check.refuses(TicketTests::used, Check.STATE, "20 none OPEN", h -> h.reissue(each));
        }
        journeysThatAreNotReissued();
    }

    private static void journeysThatAreNotReissued() {
        Check.Maker wiped = () -> {
            Proratehouse made = sold();
            made.wipe();
            return made;
        };
        Check.Maker unpriced = () -> {
            Proratehouse made = sold();
            made.withdraw(2);
            return made;
        };
        Check.Maker late = () -> {
            Proratehouse made = sold();
            made.pass(1);
            return made;
        };
        Check.refuses(wiped, Check.STATE, "20 no leg", h -> h.reissue(0));
        Check.refuses(unpriced, Check.STATE, "20 no price", h -> h.reissue(0));
        Check.refuses(late, Check.STATE, "20 a leg of yesterday", h -> h.reissue(0));
    }

    static Proratehouse lastDays() {
        Proratehouse house = sold();
        for (int k = 1; k <= 9; k++) {
            Check.due("21 day", 100 * k, house.pass(100));
        }
        return house;
    }

    private static void promise21() {
        Proratehouse house = row();
        Check.due("21 one", 1, house.pass(1));
        Check.due("21 most", 101, house.pass(100));
        Check.due("21 today", 101, house.of(0));
        Check.due("21 the last one", 999, lastDays().pass(99));
        for (int days : new int[] {0, -1, 101, Integer.MIN_VALUE, Integer.MAX_VALUE}) {
            Check.refuses(TicketTests::lastDays, Check.ARGUMENT, "21 days", h -> h.pass(days));
        }
        Check.refuses(TicketTests::lastDays, Check.STATE, "21 no such day", h -> h.pass(100));
    }

    private static void promise26() {
        Proratehouse house = used();
        int[][] due = {{3000, 42, 0, 3, 6, 0}, {3000, 42, 1, 3, 6, 0}, {3000, 42, 2, 3, 6, 0},
            {3000, 42, 2, 3, 6, 0}};
        for (int ticket = 0; ticket < due.length; ticket++) {
            for (int what = 0; what < 6; what++) {
                Check.due("26 of " + ticket, due[ticket][what], house.ofTicket(ticket, what));
            }
        }
        for (int none : new int[] {-1, 4, 30, Integer.MIN_VALUE, Integer.MAX_VALUE}) {
            Check.refuses(TicketTests::used, Check.INDEX, "26 ticket", h -> h.ofTicket(none, 0));
            Check.refuses(TicketTests::used, Check.INDEX, "26 both", h -> h.ofTicket(none, 6));
        }
        for (int what : new int[] {-1, 6, Integer.MIN_VALUE, Integer.MAX_VALUE}) {
            Check.refuses(TicketTests::used, Check.ARGUMENT, "26 what", h -> h.ofTicket(0, what));
        }
    }

    private static void promise27() {
        Proratehouse house = used();
        int[][] due = {{2, 1000, 10, 0, 0, -1}, {1, 1000, 2, 1, 0, 0}, {1, 1000, 30, 2, 2, 1}};
        for (int coupon = 0; coupon < due.length; coupon++) {
            for (int what = 0; what < 6; what++) {
                Check.due("27 of " + coupon, due[coupon][what], house.ofCoupon(0, coupon, what));
            }
        }
        Check.due("27 refunded", 3, house.ofCoupon(1, 2, 0));
        Check.due("27 exchanged", 4, house.ofCoupon(2, 2, 0));
        Check.due("27 open", 0, house.ofCoupon(3, 2, 0));
        Check.due("27 no bill", -1, house.ofCoupon(3, 2, 5));
        Check.due("27 its tax", 30, house.ofCoupon(3, 2, TAX));
        Check.due("27 all taxes", 42, house.ofTicket(3, TAXES));
        for (int none : new int[] {-1, 4, 30, Integer.MAX_VALUE}) {
            Check.refuses(TicketTests::used, Check.INDEX, "27 ticket", h -> h.ofCoupon(none, 0, 6));
        }
        for (int none : new int[] {-1, 3, 8, Integer.MIN_VALUE}) {
            Check.refuses(TicketTests::used, Check.INDEX, "27 coupon", h -> h.ofCoupon(0, none, -1));
        }
        for (int what : new int[] {-1, 6, Integer.MIN_VALUE, Integer.MAX_VALUE}) {
            Check.refuses(TicketTests::used, Check.ARGUMENT, "27 what", h -> h.ofCoupon(0, 0, what));
        }
    }

    private static void promises29To33() {
        Proratehouse house = used();
        // carrier 0 has sold for 3042 and paid the taxes 2 and 30; 1 gave all back; 2 exchanged
        money("29", house, 3042 * 2, 3010, 0, 3042);
        house.clear();
        money("29 cleared", house, 3042 * 2, 1010, 1000, 4042);
        long[] taxes = {0, 2, 30, 0, 0, 0, 0, 0, 0, 0};
        for (int place = 0; place < 10; place++) {
            Check.due("31 state", taxes[place], house.state(place));
        }
        house.fails(4, true);
        house.fails(0, true);
        int[] due = {2, 3, 4, 2, 1, 17};
        for (int what = 0; what < 6; what++) {
            Check.due("33 of " + what, due[what], house.of(what));
        }
        // what carrier 0 paid by that clearing is undone
        money("29 undone", house, 3042 * 2, 3010, 0, 3042);
        Proratehouse poor = row();
        poor.leg(0, 1, 1, 0);
        poor.issue(0);
        poor.fly(0, 0);
        poor.clear();
        poor.leg(1, 2, 1, 0);
        poor.issue(1);
        poor.reject(0);
        poor.refund(1);
        money("30", poor, 1010, 0, 1000);
        for (int none : Check.NO_CARRIERS) {
            Check.refuses(TicketTests::used, Check.INDEX, "29 carrier", h -> h.cash(none));
            Check.refuses(TicketTests::used, Check.INDEX, "30 carrier", h -> h.cashAnew(none));
        }
        for (int none : Check.NO_PLACES) {
            Check.refuses(TicketTests::used, Check.INDEX, "31 place", h -> h.state(none));
        }
        for (int what : new int[] {-1, 6, Integer.MIN_VALUE, Integer.MAX_VALUE}) {
            Check.refuses(TicketTests::used, Check.ARGUMENT, "33 what", h -> h.of(what));
        }
        cashOfManyMoves();
    }

    /** Two issuers whose bills are settled, go back, are undone and billed again. */
    private static void cashOfManyMoves() {
        Proratehouse house = row();
        house.leg(0, 1, 1, 0);
        house.issue(0);
        house.fly(0, 0);
        house.clear();
        money("29 none is left", house, 1010, 0, 1000);
        house.leg(1, 2, 1, 0);
        house.issue(1);
        house.endorse(1, 0, 3);
        house.fly(1, 0);
        house.clear();
        money("29 carrier 1", house, 2030, 0, 1000, 0, 1000);
        house.reject(0);
        house.leg(1, 2, 1, 0);
        house.leg(2, 3, 1, 0);
        house.issue(1);
        house.fly(2, 0);
        house.refund(2);
        house.clear();
        money("29 one flown by its issuer", house, 3050, 1000, 1000, 0, 1000);
        house.fails(0, true);
        house.fails(0, false);
        money("29 undone", house, 3050, 0, 2000, 0, 1000);
        house.clear();
        house.rebill(0);
        house.clear();
        money("29 billed again", house, 3050, 0, 2000, 0, 1000);
    }

    public static void main(String[] args) {
        promise16();
        promise17();
        promise18();
        promise19();
        promise20();
        promise21();
        promise26();
        promise27();
        promises29To33();
        Check.end("promises 16 to 21, 26, 27 and 29 to 33");
    }
}
