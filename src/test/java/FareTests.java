/** Promises 1 to 15: miles, fares, taxes and journeys, each with answers reckoned by hand. */
public final class FareTests {

    static Proratehouse house() {
        return new Proratehouse();
    }

    /** Miles between both places, and a fare for any day with any stops. */
    static void open(Proratehouse house, int from, int to, int miles, int cents) {
        house.miles(from, to, miles);
        house.fare(from, to, cents, 0, 999, 7);
    }

    /** A house with a priced journey 0 - 1 - 2, a ticket of the same, and all settings not 0. */
    static Proratehouse settled() {
        Proratehouse house = house();
        open(house, 0, 1, 1000, 20000);
        open(house, 1, 2, 800, 9000);
        open(house, 0, 2, 1500, 30000);
        house.unit(10);
        house.penalty(7);
        house.tax(0, 500, 100);
        house.tax(1, 400, 50);
        house.weight(0, 1, 700);
        house.proviso(1, 1, 2, 3000);
        for (int turn = 0; turn < 2; turn++) {
            house.leg(0, 1, 0, 1);
            house.leg(1, 2, 1, 2);
            if (turn == 0) {
                house.issue(0);
            }
        }
        return house;
    }

    private static void promise1() {
        Proratehouse other = settled();
        Proratehouse house = house();
        for (int what = 0; what < 6; what++) {
            Check.due("1 of " + what, 0, house.of(what));
        }
        Check.due("1 price", -1, house.price());
        Check.due("1 priceAnew", -1, house.priceAnew());
        Check.due("1 cuts", -1, house.cuts());
        Check.due("1 wipe", 0, house.wipe());
        Check.due("1 clear", 0, house.clear());
        Check.due("1 paid", 0, house.paid());
        for (int one = 0; one < 10; one++) {
            Check.due("1 state", 0, house.state(one));
            for (int two = 0; two < one; two++) {
                Check.due("1 miles", 0, house.miles(one, two, 5));
                Check.due("1 weight", 0, house.weight(one, two, 5));
            }
        }
        for (int carrier = 0; carrier < 5; carrier++) {
            Check.due("1 cash", 0, house.cash(carrier));
            Check.due("1 cashAnew", 0, house.cashAnew(carrier));
            Check.due("1 proviso", -1, house.proviso(carrier, 9, 0, 1));
            Check.due("1 proviso", -1, house.proviso(carrier, 0, 9, 1));
        }
        Check.due("1 unit", 1, house.unit(3));
        Check.due("1 penalty", 0, house.penalty(3));
        Check.due("1 fare", 0, house.fare(0, 1, 1, 0, 0, 0));
        Check.due("1 the other house", 29000, other.price());
        Check.refuses(FareTests::house, Check.INDEX, "1 part", h -> h.part(0, 1));
        Check.refuses(FareTests::house, Check.INDEX, "1 ofTicket", h -> h.ofTicket(0, 0));
        Check.refuses(FareTests::house, Check.INDEX, "1 ofBill", h -> h.ofBill(0, 0));
        Check.refuses(FareTests::house, Check.STATE, "1 leg", h -> h.leg(0, 1, 0, 0));
    }

    private static void promise2() {
        Proratehouse house = house();
        Check.due("2 first", 0, house.miles(0, 9, 1));
        Check.due("2 the other way", 1, house.miles(9, 0, 9999));
        Check.due("2 again", 9999, house.miles(0, 9, 77));
        Check.due("2 another pair", 0, house.miles(0, 8, 5));
        house.fare(0, 9, 100, 0, 999, 0);
        house.fare(9, 0, 100, 0, 999, 0);
        house.leg(0, 9, 0, 0);
        house.leg(9, 0, 0, 0);
        Check.due("2 both ways", 200, house.price());
        Proratehouse told = settled();
        Check.due("2 before", 30000, told.part(0, 2));
        told.miles(1, 2, 801);
        Check.due("2 told anew", 31500, told.part(0, 2));
        for (int none : Check.NO_PLACES) {
            Check.refuses(FareTests::settled, Check.INDEX, "2 one", h -> h.miles(none, 1, 5));
            Check.refuses(FareTests::settled, Check.INDEX, "2 other", h -> h.miles(1, none, 5));
            Check.refuses(FareTests::settled, Check.INDEX, "2 both", h -> h.miles(none, none, 0));
        }
        for (int miles : new int[] {0, -1, 10000, Integer.MIN_VALUE, Integer.MAX_VALUE}) {
            Check.refuses(FareTests::settled, Check.ARGUMENT, "2 miles", h -> h.miles(0, 1, miles));
        }
        Check.refuses(FareTests::settled, Check.ARGUMENT, "2 the same", h -> h.miles(3, 3, 5));
    }

    static Proratehouse full() {
        Proratehouse house = settled();
        for (int k = 3; k < 40; k++) {
            Check.due("3 number", k, house.fare(0, 1, 50000, 0, 999, 0));
        }
        return house;
    }

    private static void promise3() {
        Proratehouse house = house();
        Check.due("3 least", 0, house.fare(0, 9, 1, 0, 0, 0));
        Check.due("3 most", 1, house.fare(9, 0, 1000000, 999, 999, 7));
        Check.due("3 alike", 2, house.fare(9, 0, 1000000, 0, 999, 7));
        house.withdraw(0);
        Check.due("3 a withdrawn one keeps its number", 3, house.fare(0, 9, 1, 0, 0, 0));
        for (int none : Check.NO_PLACES) {
            Check.refuses(FareTests::full, Check.INDEX, "3 from", h -> h.fare(none, 1, 0, 0, 0, 0));
            Check.refuses(FareTests::full, Check.INDEX, "3 to", h -> h.fare(1, none, 1, 0, 0, 0));
        }
        int[][] odd = {{3, 3, 1, 0, 0, 0}, {0, 1, 0, 0, 0, 0}, {0, 1, 1000001, 0, 0, 0},
            {0, 1, -5, 0, 0, 0}, {0, 1, 1, -1, 0, 0}, {0, 1, 1, 1000, 1000, 0}, {0, 1, 1, 5, 4, 0},
            {0, 1, 1, 0, 1000, 0}, {0, 1, 1, 0, -1, 0}, {0, 1, 1, 0, 0, -1}, {0, 1, 1, 0, 0, 8}};
        for (int[] o : odd) {
            Check.refuses(FareTests::settled, Check.ARGUMENT, "3 odd",
                    h -> h.fare(o[0], o[1], o[2], o[3], o[4], o[5]));
            Check.refuses(FareTests::full, Check.ARGUMENT, "3 odd and full",
                    h -> h.fare(o[0], o[1], o[2], o[3], o[4], o[5]));
        }
        Check.refuses(FareTests::full, Check.STATE, "3 full", h -> h.fare(0, 1, 1, 0, 999, 0));
        daysOfFares();
    }

    private static void daysOfFares() {
        Proratehouse house = house();
        house.miles(0, 1, 10);
        house.fare(0, 1, 100, 2, 3, 0);
        house.fare(0, 1, 200, 3, 4, 0);
        house.leg(0, 1, 0, 900);
        int[] due = {-1, -1, 100, 100, 200, -1};
        for (int day = 0; day < due.length; day++) {
            Check.due("3 in force on day " + day, due[day], house.price());
            house.pass(1);
        }
    }

    private static void promise4() {
        Proratehouse house = house();
        open(house, 0, 1, 10, 100);
        house.fare(0, 1, 300, 0, 999, 0);
        house.fare(0, 1, 200, 0, 999, 0);
        house.leg(0, 1, 0, 0);
        Check.due("4 before", 100, house.price());
        house.withdraw(0);
        Check.due("4 the next one", 200, house.price());
        house.withdraw(2);
        Check.due("4 the last one", 300, house.price());
        house.withdraw(1);
        Check.due("4 none", -1, house.part(0, 1));
        Check.refuses(FareTests::settled, Check.INDEX, "4 below", h -> { h.withdraw(-1); return 0; });
        Check.refuses(FareTests::settled, Check.INDEX, "4 above", h -> { h.withdraw(3); return 0; });
        Check.refuses(FareTests::full, Check.INDEX, "4 above all", h -> { h.withdraw(40); return 0; });
        Check.Maker once = () -> {
            Proratehouse made = settled();
            made.withdraw(0);
            return made;
        };
        Check.refuses(once, Check.STATE, "4 twice", h -> { h.withdraw(0); return 0; });
    }

    private static void promise5() {
        Proratehouse house = house();
        open(house, 0, 1, 10, 1001);
        house.leg(0, 1, 0, 0);
        Check.due("5 by 1", 1001, house.price());
        Check.due("5 before", 1, house.unit(1000));
        Check.due("5 by 1000", 2000, house.price());
        Check.due("5 before", 1000, house.unit(7));
        Check.due("5 by 7, a multiple", 1001, house.price());
        Check.due("5 before", 7, house.unit(1));
        for (int unit : new int[] {0, -1, 1001, Integer.MIN_VALUE, Integer.MAX_VALUE}) {
            Check.refuses(FareTests::settled, Check.ARGUMENT, "5 unit", h -> h.unit(unit));
        }
    }

    private static void promise6() {
        Proratehouse house = settled();
        house.tax(0, 10000, 1);
        house.tax(1, 2, 10000);
        Check.due("6 for tickets from now on", 900, house.ofTicket(0, 1));
        house.issue(2);
        Check.due("6 both depart", 10002, house.ofTicket(1, 1));
        house.leg(0, 1, 0, 3);
        house.leg(1, 2, 0, 3);
        house.issue(2);
        Check.due("6 the second changes", 20000, house.ofTicket(2, 1));
        house.tax(0, 0, 0);
        house.leg(0, 1, 0, 3);
        house.issue(2);
        Check.due("6 none", 0, house.ofTicket(3, 1));
        for (int none : Check.NO_PLACES) {
            Check.refuses(FareTests::settled, Check.INDEX, "6 place",
                    h -> { h.tax(none, -1, 0); return 0; });
        }
        for (int tax : new int[] {-1, 10001, Integer.MIN_VALUE, Integer.MAX_VALUE}) {
            Check.refuses(FareTests::settled, Check.ARGUMENT, "6 departs",
                    h -> { h.tax(0, tax, 1); return 0; });
            Check.refuses(FareTests::settled, Check.ARGUMENT, "6 changes",
                    h -> { h.tax(0, 1, tax); return 0; });
        }
    }

    private static void promise7() {
        Proratehouse house = house();
        Check.due("7 first", 0, house.weight(9, 0, 9999));
        Check.due("7 the other way", 9999, house.weight(0, 9, 1));
        Check.due("7 again", 1, house.weight(9, 0, 0));
        Check.due("7 taken away", 0, house.weight(9, 0, 4));
        for (int none : Check.NO_PLACES) {
            Check.refuses(FareTests::settled, Check.INDEX, "7 one", h -> h.weight(none, 1, -1));
            Check.refuses(FareTests::settled, Check.INDEX, "7 other", h -> h.weight(1, none, 5));
        }
        for (int weight : new int[] {-1, 10000, Integer.MIN_VALUE, Integer.MAX_VALUE}) {
            Check.refuses(FareTests::settled, Check.ARGUMENT, "7 weight", h -> h.weight(0, 1, weight));
        }
        Check.refuses(FareTests::settled, Check.ARGUMENT, "7 the same", h -> h.weight(0, 0, 5));
    }

    private static void promise8() {
        Proratehouse house = house();
        Check.due("8 first", -1, house.proviso(4, 9, 0, 1000000));
        Check.due("8 not the other way", -1, house.proviso(4, 0, 9, 0));
        Check.due("8 not another carrier", -1, house.proviso(3, 9, 0, 5));
        Check.due("8 before", 1000000, house.proviso(4, 9, 0, -1));
        Check.due("8 none", -1, house.proviso(4, 9, 0, 1));
        Check.due("8 one of 0", 0, house.proviso(4, 0, 9, 1));
        for (int none : Check.NO_CARRIERS) {
            Check.refuses(FareTests::settled, Check.INDEX, "8 carrier", h -> h.proviso(none, 1, 1, 5));
        }
        for (int none : Check.NO_PLACES) {
            Check.refuses(FareTests::settled, Check.INDEX, "8 from", h -> h.proviso(1, none, 1, 5));
            Check.refuses(FareTests::settled, Check.INDEX, "8 to", h -> h.proviso(1, 1, none, -2));
        }
        for (int cents : new int[] {-2, 1000001, Integer.MIN_VALUE, Integer.MAX_VALUE}) {
            Check.refuses(FareTests::settled, Check.ARGUMENT, "8 cents", h -> h.proviso(1, 1, 2, cents));
        }
        Check.refuses(FareTests::settled, Check.ARGUMENT, "8 the same", h -> h.proviso(1, 1, 1, 5));
    }

    private static void promise9() {
        Proratehouse house = house();
        Check.due("9 first", 0, house.penalty(100));
        Check.due("9 then", 100, house.penalty(0));
        Check.due("9 then", 0, house.penalty(50));
        for (int hundredths : new int[] {-1, 101, Integer.MIN_VALUE, Integer.MAX_VALUE}) {
            Check.refuses(FareTests::settled, Check.ARGUMENT, "9 penalty", h -> h.penalty(hundredths));
        }
    }

    static Proratehouse eightLegs() {
        Proratehouse house = house();
        open(house, 0, 1, 10, 100);
        open(house, 1, 0, 10, 100);
        for (int k = 1; k <= 8; k++) {
            Check.due("10 leg " + k, k, house.leg((k + 1) % 2, k % 2, 0, k));
        }
        return house;
    }

    private static void promise10() {
        Proratehouse house = settled();
        Check.due("10 on the last day", 3, house.leg(2, 1, 4, 999));
        house.wipe();
        house.pass(9);
        Check.due("10 today", 1, house.leg(2, 1, 0, 9));
        Check.due("10 the same day", 2, house.leg(1, 2, 0, 9));
        for (int none : Check.NO_PLACES) {
            Check.refuses(FareTests::settled, Check.INDEX, "10 from", h -> h.leg(none, 1, 0, 3));
            Check.refuses(FareTests::settled, Check.INDEX, "10 to", h -> h.leg(2, none, 0, -1));
        }
        for (int none : Check.NO_CARRIERS) {
            Check.refuses(FareTests::settled, Check.INDEX, "10 carrier", h -> h.leg(2, 2, none, 3));
        }
        for (int day : new int[] {-1, 1000, Integer.MIN_VALUE, Integer.MAX_VALUE}) {
            Check.refuses(FareTests::settled, Check.ARGUMENT, "10 day", h -> h.leg(2, 1, 0, day));
        }
        Check.Maker later = () -> {
            Proratehouse made = settled();
            made.pass(5);
            return made;
        };
        Check.refuses(later, Check.ARGUMENT, "10 yesterday", h -> h.leg(2, 1, 0, 4));
        Check.refuses(FareTests::settled, Check.ARGUMENT, "10 the same", h -> h.leg(2, 2, 0, 3));
        Check.refuses(FareTests::eightLegs, Check.ARGUMENT, "10 odd and full", h -> h.leg(0, 1, 0, -1));
        Check.refuses(FareTests::eightLegs, Check.STATE, "10 full", h -> h.leg(0, 1, 0, 9));
        Check.refuses(FareTests::settled, Check.STATE, "10 elsewhere", h -> h.leg(0, 1, 0, 3));
        Check.refuses(FareTests::settled, Check.STATE, "10 earlier", h -> h.leg(2, 1, 0, 1));
        Check.refuses(FareTests::settled, Check.STATE, "10 no miles", h -> h.leg(2, 3, 0, 3));
        Check.refuses(FareTests::house, Check.STATE, "10 none at all", h -> h.leg(0, 1, 0, 0));
    }

    private static void promise11() {
        Proratehouse house = settled();
        Check.due("11 had two", 2, house.wipe());
        Check.due("11 has none", 0, house.of(1));
        Check.due("11 no price", -1, house.price());
        Check.due("11 had none", 0, house.wipe());
        Check.due("11 begins anywhere, on any day", 1, house.leg(2, 1, 0, 0));
        Check.due("11 eight", 8, eightLegs().wipe());
    }

    /** The price of 0 - 1 - 2 by a fare of 1000, with these miles of both legs and direct ones. */
    static long bent(int direct, int first, int second) {
        Proratehouse house = house();
        house.miles(0, 1, first);
        house.miles(1, 2, second);
        open(house, 0, 2, direct, 1000);
        house.leg(0, 1, 0, 0);
        house.leg(1, 2, 0, 0);
        return house.part(0, 2);
    }

    private static void promise12() {
        int[][] due = {{11, 1000}, {120, 1000}, {121, 1050}, {126, 1050}, {127, 1100}, {132, 1100},
            {133, 1150}, {138, 1150}, {139, 1200}, {144, 1200}, {145, 1250}, {150, 1250}, {151, -3},
            {9999, -3}};
        for (int[] row : due) {
            Check.due("12 miles " + row[0], row[1], bent(100, row[0] - 10, 10));
        }
        // 120 hundredths of 7 are 8, and 8 more by 5, 10, 15, 20, 25 hundredths 8, 8, 9, 9, 10
        Check.due("12 rounded down, none", 1000, bent(7, 4, 4));
        Check.due("12 rounded down, 15", 1150, bent(7, 4, 5));
        Check.due("12 rounded down, 25", 1250, bent(7, 5, 5));
        Check.due("12 rounded down, too far", -3, bent(7, 5, 6));
        Check.due("12 one mile", -3, bent(1, 1, 1));
        reasonsOfParts();
        higherFaresBetween();
        roundingOfParts();
        Proratehouse single = house();
        open(single, 0, 1, 1, 100);
        single.leg(0, 1, 0, 0);
        Check.due("12 one leg of one mile", 100, single.part(0, 1));
        partsOfTheMiddle();
        Check.refuses(FareTests::house, Check.INDEX, "12 no leg, no point", h -> h.part(0, 0));
        Check.refuses(FareTests::settled, Check.INDEX, "12 below", h -> h.part(-1, 1));
        Check.refuses(FareTests::settled, Check.INDEX, "12 above", h -> h.part(0, 3));
        Check.refuses(FareTests::settled, Check.INDEX, "12 above and not later", h -> h.part(3, 1));
        Check.refuses(FareTests::settled, Check.INDEX, "12 far", h -> h.part(1, Integer.MIN_VALUE));
        Check.refuses(FareTests::settled, Check.ARGUMENT, "12 the same", h -> h.part(2, 2));
        Check.refuses(FareTests::settled, Check.ARGUMENT, "12 earlier", h -> h.part(1, 0));
    }

    private static void reasonsOfParts() {
        Proratehouse house = house();
        house.miles(0, 1, 10);
        house.miles(1, 2, 10);
        house.leg(0, 1, 0, 0);
        house.leg(1, 2, 0, 1);
        Check.due("12 no fare", -1, house.part(0, 2));
        house.fare(2, 0, 5, 0, 999, 7);
        house.fare(0, 2, 5, 1, 999, 7);
        Check.due("12 no fare yet, nor this way", -1, house.part(0, 2));
        house.fare(0, 2, 400, 0, 999, 0);
        Check.due("12 too many stops ahead of no miles", -2, house.part(0, 2));
        house.fare(0, 2, 500, 0, 999, 1);
        Check.due("12 no miles", -3, house.part(0, 2));
        house.miles(0, 2, 16);
        Check.due("12 the one that allows the stop", 550, house.part(0, 2));
        house.leg(2, 1, 0, 1);
        house.leg(1, 2, 0, 1);
        Check.due("12 again at the same place, too far", -3, house.part(0, 4));
        Check.due("12 from a place to itself", -1, house.part(1, 3));
        house.miles(0, 2, 9999);
        Check.due("12 changes are no stops", 500, house.part(0, 4));
    }

    private static void higherFaresBetween() {
        Proratehouse house = house();
        open(house, 0, 3, 30, 1000);
        house.miles(0, 1, 10);
        house.miles(1, 2, 10);
        house.miles(2, 3, 10);
        house.leg(0, 1, 0, 0);
        house.leg(1, 2, 0, 1);
        house.leg(2, 3, 0, 2);
        Check.due("12 none between", 1000, house.part(0, 3));
        house.fare(0, 2, 1500, 0, 999, 0);
        Check.due("12 one between, whatever stops", 1500, house.part(0, 3));
        house.fare(0, 1, 1600, 0, 999, 0);
        house.fare(0, 1, 1550, 0, 999, 7);
        Check.due("12 the greatest one of the lowest ones", 1550, house.part(0, 3));
        house.fare(0, 1, 900, 0, 999, 0);
        Check.due("12 a lower one", 1500, house.part(0, 3));
        house.withdraw(1);
        Check.due("12 one that is less", 1000, house.part(0, 3));
        house.fare(0, 2, 2000, 1, 1, 7);
        house.fare(1, 2, 3000, 0, 999, 7);
        house.fare(1, 3, 3000, 0, 999, 7);
        Check.due("12 not in force, or from elsewhere", 1000, house.part(0, 3));
        house.pass(1);
        Check.due("12 in force", 2000, house.part(0, 3));
        house.miles(0, 3, 24);
        Check.due("12 more by the miles", 2200, house.part(0, 3));
    }

    /** Stops at the ends of a part are none of it, nor are fares to points outside of it. */
    private static void partsOfTheMiddle() {
        Proratehouse house = house();
        for (int k = 0; k < 4; k++) {
            house.miles(k, k + 1, 100);
        }
        house.miles(1, 3, 200);
        int[] days = {0, 1, 1, 2};
        for (int k = 0; k < 4; k++) {
            house.leg(k, k + 1, 0, days[k]);
        }
        house.fare(1, 3, 500, 0, 999, 0);
        house.fare(1, 0, 900, 0, 999, 7);
        house.fare(1, 4, 900, 0, 999, 7);
        Check.due("12 in the middle", 500, house.part(1, 3));
        house.fare(1, 2, 800, 0, 999, 7);
        Check.due("12 in the middle, a higher one", 800, house.part(1, 3));
    }

    private static void roundingOfParts() {
        Proratehouse house = house();
        house.miles(0, 1, 60);
        house.miles(1, 2, 61);
        open(house, 0, 2, 100, 101);
        house.fare(0, 1, 999999, 0, 999, 7);
        house.fare(1, 2, 1000000, 0, 999, 7);
        house.leg(0, 1, 0, 0);
        house.leg(1, 2, 0, 0);
        Check.due("12 the higher one", 1049999, house.part(0, 2));
        house.withdraw(1);
        Check.due("12 106.05", 107, house.part(0, 2));
        house.unit(2);
        Check.due("12 106.05 by 2", 108, house.part(0, 2));
        house.unit(106);
        Check.due("12 106.05 by 106", 212, house.part(0, 2));
        house.unit(107);
        Check.due("12 106.05 by 107", 107, house.part(0, 2));
        house.unit(1000);
        Check.due("12 a multiple", 1000000, house.part(1, 2));
    }

    static Proratehouse line(int legs) {
        Proratehouse house = house();
        for (int k = 0; k < legs; k++) {
            open(house, k, k + 1, 100, 100);
            house.leg(k, k + 1, 0, 0);
        }
        return house;
    }

    static void priced(String what, Proratehouse house, int cents, int cutPoints) {
        Check.due(what + " price", cents, house.price());
        Check.due(what + " priceAnew", cents, house.priceAnew());
        Check.due(what + " cuts", cutPoints, house.cuts());
    }

    private static void promises13To15() {
        priced("13 no leg", house(), -1, -1);
        priced("13 one leg", line(1), 100, 0);
        priced("13 each leg by itself", line(8), 800, 254);
        Proratehouse house = line(3);
        priced("13 all cuts", house, 300, 6);
        open(house, 0, 3, 300, 301);
        priced("13 the whole is dearer", house, 300, 6);
        house.fare(0, 3, 300, 0, 999, 7);
        priced("13 of the same sums no cuts", house, 300, 0);
        house = line(3);
        open(house, 0, 2, 200, 150);
        priced("13 cut at 2", house, 250, 4);
        open(house, 1, 3, 200, 150);
        priced("13 of the same sums the cut at 1", house, 250, 2);
        house.fare(1, 3, 149, 0, 999, 7);
        priced("13 less by the cut at 1", house, 249, 2);
        house.fare(0, 2, 148, 0, 999, 7);
        priced("13 less by the cut at 2", house, 248, 4);
        Check.due("15 asked first", 4 + 2, line(3).cuts());
        Proratehouse wiped = line(3);
        Check.due("13 asked first", 300, wiped.price());
        wiped.wipe();
        Check.due("15 wiped", -1, wiped.cuts());
        Check.due("13 wiped", -1, wiped.price());
        Check.due("14 wiped", -1, wiped.priceAnew());
        sumsAlike();
        waysThatBreak();
    }

    private static void sumsAlike() {
        Proratehouse house = line(4);
        open(house, 0, 3, 300, 200);
        open(house, 2, 4, 200, 100);
        priced("15 the cuts at 1 and 2 are less than the one at 3", house, 300, 6);
        house.fare(0, 2, 200, 0, 999, 7);
        house.miles(0, 2, 200);
        priced("15 the cut at 2 is less than both", house, 300, 4);
        house = line(3);
        open(house, 0, 2, 200, 199);
        house.unit(100);
        priced("13 each part is rounded by itself", house, 300, 4);
    }

    private static void waysThatBreak() {
        Proratehouse house = line(8);
        house.withdraw(3);
        priced("13 no way over a leg without a fare", house, -1, -1);
        open(house, 2, 5, 300, 1000);
        priced("13 a way round it", house, 1500, 2 + 4 + 32 + 64 + 128);
        house.fare(0, 8, 1500, 0, 999, 0);
        priced("13 no miles for the whole", house, 1500, 2 + 4 + 32 + 64 + 128);
        house.miles(0, 8, 800);
        priced("13 the whole", house, 1500, 0);
        house.withdraw(9);
        house.withdraw(8);
        priced("13 none again", house, -1, -1);
        house = line(8);
        house.pass(1);
        priced("13 a journey of days gone by has its price", house, 800, 254);
        int dearest = 1000000;
        Proratehouse dear = house();
        for (int k = 0; k < 8; k++) {
            dear.miles(k, k + 1, 9999);
            dear.fare(k, k + 1, dearest, 0, 0, 7);
            dear.leg(k, k + 1, 0, 999);
        }
        priced("13 eight of the dearest", dear, 8000000, 254);
    }

    public static void main(String[] args) {
        promise1();
        promise2();
        promise3();
        promise4();
        promise5();
        promise6();
        promise7();
        promise8();
        promise9();
        promise10();
        promise11();
        promise12();
        promises13To15();
        Check.end("promises 1 to 15");
    }
}
