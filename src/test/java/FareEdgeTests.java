/**
 * Promises 1 to 15 at their edges, sentence by sentence: the last value that is let in and the first
 * one that is not, nothing there yet and as much as there may be, and two reasons to refuse at once.
 */
public final class FareEdgeTests {
    private static final Check.Maker NEW = Proratehouse::new;
    private static final Check.Maker SETTLED = FareTests::settled;
    private static final Check.Maker FULL = FareTests::full;
    private static final Check.Maker EIGHT_LEGS = FareTests::eightLegs;
    private static final Check.Maker EIGHT_STEPS = () -> FareTests.line(8);

    private static int another(int place) {
        return place == 5 ? 6 : 5;
    }

    static void passTo(Proratehouse house, int day) {
        while (house.of(0) < day) {
            house.pass(Math.min(100, day - house.of(0)));
        }
    }

    /** Miles between all places. */
    private static Proratehouse world() {
        Proratehouse house = new Proratehouse();
        for (int one = 0; one < 10; one++) {
            for (int other = 0; other < one; other++) {
                house.miles(one, other, 100);
            }
        }
        return house;
    }

    private static Proratehouse worldOnDay(int day) {
        Proratehouse house = world();
        passTo(house, day);
        return house;
    }

    // ---- promise 1

    private static void nothingThereYet() {
        Check.refuses(NEW, Check.INDEX, "1 no fare", h -> withdrawn(h, 0));
        Check.refuses(NEW, Check.INDEX, "1 no ticket to fly", h -> h.fly(0, 0));
        Check.refuses(NEW, Check.INDEX, "1 no ticket to endorse", h -> h.endorse(0, 0, 0));
        Check.refuses(NEW, Check.INDEX, "1 no ticket to refund", h -> h.refund(0));
        Check.refuses(NEW, Check.INDEX, "1 no ticket to reissue", h -> h.reissue(0));
        Check.refuses(NEW, Check.INDEX, "1 no coupon", h -> h.ofCoupon(0, 0, 0));
        Check.refuses(NEW, Check.INDEX, "1 no bill to reject", h -> h.reject(0));
        Check.refuses(NEW, Check.INDEX, "1 no bill to bill again", h -> rebilled(h, 0));
        Check.refuses(NEW, Check.STATE, "1 no journey to issue", h -> h.issue(0));
        for (int from = 0; from < 10; from++) {
            for (int to = 0; to < 10; to++) {
                int one = from;
                int other = to;
                if (one != other) {
                    Check.refuses(NEW, Check.STATE, "1 no miles", h -> h.leg(one, other, 0, 0));
                }
            }
        }
        for (int place = 0; place < 10; place++) {
            Check.due("1 no taxes of " + place, 0, taxesByWayOf(new Proratehouse(), place));
        }
        Proratehouse house = new Proratehouse();
        for (int carrier = 0; carrier < 5; carrier++) {
            for (int k = 0; k < 90; k++) {
                int from = k / 9;
                int to = (from + 1 + k % 9) % 10;
                Check.due("1 no proviso", -1, house.proviso(carrier, from, to, k));
            }
        }
    }

    private static long withdrawn(Proratehouse house, int fare) {
        house.withdraw(fare);
        return 0;
    }

    private static long rebilled(Proratehouse house, int bill) {
        house.rebill(bill);
        return 0;
    }

    private static long taxed(Proratehouse house, int place, int departs, int changes) {
        house.tax(place, departs, changes);
        return 0;
    }

    /** The taxes of a journey that departs at a place, changes elsewhere, and changes there. */
    private static long taxesByWayOf(Proratehouse house, int place) {
        int other = another(place);
        FareTests.open(house, place, other, 10, 100);
        FareTests.open(house, other, place, 10, 100);
        house.leg(place, other, 0, 0);
        house.leg(other, place, 0, 0);
        house.leg(place, other, 0, 0);
        return house.ofTicket(house.issue(0), 1);
    }

    // ---- promises 2 to 9: each argument at both ends

    private static void milesAtTheirEnds() {
        Check.bounds(SETTLED, Check.INDEX, "2 one", 0, 9, (h, n) -> h.miles(n, another(n), 7));
        Check.bounds(SETTLED, Check.INDEX, "2 other", 0, 9, (h, n) -> h.miles(another(n), n, 7));
        Check.bounds(SETTLED, Check.ARGUMENT, "2 miles", 1, 9999, (h, n) -> h.miles(0, 1, n));
        Check.bounds(NEW, Check.ARGUMENT, "2 miles of a new pair", 1, 9999, (h, n) -> h.miles(8, 9, n));
        for (int place = 0; place < 10; place++) {
            int same = place;
            Check.refuses(SETTLED, Check.ARGUMENT, "2 the same", h -> h.miles(same, same, 5));
        }
        Check.refuses(SETTLED, Check.INDEX, "2 none, and the same", h -> h.miles(10, 10, 5));
        Check.refuses(SETTLED, Check.INDEX, "2 none below, and the same", h -> h.miles(-1, -1, 5));
        Check.refuses(SETTLED, Check.INDEX, "2 one none, no miles", h -> h.miles(10, 0, 0));
        Check.refuses(SETTLED, Check.INDEX, "2 other none, too many miles", h -> h.miles(0, -1, 10000));
        Check.refuses(SETTLED, Check.ARGUMENT, "2 the same, no miles", h -> h.miles(4, 4, 0));
        Proratehouse house = new Proratehouse();
        Check.due("2 none were told", 0, house.miles(3, 4, 1));
        Check.due("2 the same ones again", 1, house.miles(4, 3, 1));
        Check.due("2 one mile lets a leg in", 1, house.leg(3, 4, 0, 0));
    }

    private static void faresAtTheirEnds() {
        Check.bounds(SETTLED, Check.INDEX, "3 from", 0, 9, (h, n) -> h.fare(n, another(n), 1, 0, 0, 0));
        Check.bounds(SETTLED, Check.INDEX, "3 to", 0, 9, (h, n) -> h.fare(another(n), n, 1, 0, 0, 0));
        Check.bounds(SETTLED, Check.ARGUMENT, "3 cents", 1, 1000000, (h, n) -> h.fare(0, 1, n, 0, 0, 0));
        Check.bounds(SETTLED, Check.ARGUMENT, "3 first", 0, 999, (h, n) -> h.fare(0, 1, 1, n, 999, 0));
        Check.bounds(SETTLED, Check.ARGUMENT, "3 first, last 5", 0, 5, (h, n) -> h.fare(0, 1, 1, n, 5, 0));
        Check.bounds(SETTLED, Check.ARGUMENT, "3 last", 0, 999, (h, n) -> h.fare(0, 1, 1, 0, n, 0));
        Check.bounds(SETTLED, Check.ARGUMENT, "3 last, first 5", 5, 999, (h, n) -> h.fare(0, 1, 1, 5, n, 0));
        Check.bounds(SETTLED, Check.ARGUMENT, "3 last, first 999", 999, 999,
                (h, n) -> h.fare(0, 1, 1, 999, n, 0));
        Check.bounds(SETTLED, Check.ARGUMENT, "3 stops", 0, 7, (h, n) -> h.fare(0, 1, 1, 0, 0, n));
        for (int place = 0; place < 10; place++) {
            int same = place;
            Check.refuses(SETTLED, Check.ARGUMENT, "3 the same", h -> h.fare(same, same, 1, 0, 0, 0));
        }
        Check.refuses(SETTLED, Check.INDEX, "3 none, and the same", h -> h.fare(10, 10, 1, 0, 0, 0));
        Check.refuses(SETTLED, Check.INDEX, "3 none, no cents", h -> h.fare(0, -1, 0, 0, 0, 0));
        Check.refuses(SETTLED, Check.INDEX, "3 none, last ahead", h -> h.fare(10, 0, 1, 5, 4, 0));
        Check.refuses(FULL, Check.INDEX, "3 none, and full", h -> h.fare(0, 10, 1, 0, 0, 0));
        Check.refuses(FULL, Check.INDEX, "3 all three", h -> h.fare(-1, -1, 0, -1, -2, 8));
        Check.refuses(FULL, Check.ARGUMENT, "3 the same, and full", h -> h.fare(9, 9, 1, 0, 0, 0));
    }

    private static void fortyFares() {
        Proratehouse house = new Proratehouse();
        for (int k = 0; k < 40; k++) {
            Check.due("3 its number", k, house.fare(k % 10, (k + 1) % 10, 1 + k, k, 999 - k, k % 8));
        }
        Check.Maker withdrawn = () -> {
            Proratehouse made = FareTests.full();
            for (int k = 0; k < 40; k++) {
                made.withdraw(k);
            }
            return made;
        };
        Check.refuses(withdrawn, Check.STATE, "3 there are 40 withdrawn ones", h -> h.fare(0, 1, 1, 0, 9, 0));
        Check.Maker almost = () -> {
            Proratehouse made = new Proratehouse();
            for (int k = 0; k < 39; k++) {
                made.fare(0, 1, 1, 0, 0, 0);
            }
            return made;
        };
        Check.answers(almost, 39, "3 there are 39", h -> h.fare(0, 1, 1, 0, 0, 0));
        Check.bounds(FULL, Check.INDEX, "4 fare of 40", 0, 39, FareEdgeTests::withdrawn);
        Check.bounds(SETTLED, Check.INDEX, "4 fare of 3", 0, 2, FareEdgeTests::withdrawn);
        for (int k : new int[] {0, 39}) {
            Check.refuses(withdrawn, Check.STATE, "4 was withdrawn", h -> withdrawn(h, k));
        }
        Check.refuses(withdrawn, Check.INDEX, "4 all were withdrawn", h -> withdrawn(h, 40));
    }

    /** The price of one leg on a day, by a fare of 100 that is in force from a first day to a last one. */
    private static long priceOn(int first, int last, int day) {
        Proratehouse house = new Proratehouse();
        house.miles(0, 1, 10);
        house.fare(0, 1, 100, first, last, 0);
        house.leg(0, 1, 0, 999);
        passTo(house, day);
        Check.due("13 on day " + day, house.part(0, 1) < 0 ? -1 : house.part(0, 1), house.price());
        return house.part(0, 1);
    }

    private static void daysInForce() {
        int[][] rows = {{0, 0, 0, 100}, {0, 0, 1, -1}, {0, 999, 0, 100}, {0, 999, 999, 100},
            {999, 999, 998, -1}, {999, 999, 999, 100}, {0, 998, 998, 100}, {0, 998, 999, -1},
            {5, 5, 4, -1}, {5, 5, 5, 100}, {5, 5, 6, -1}, {5, 7, 4, -1}, {5, 7, 5, 100}, {5, 7, 7, 100},
            {5, 7, 8, -1}};
        for (int[] row : rows) {
            Check.due("12 in force " + row[0] + " to " + row[1] + " on day " + row[2], row[3],
                    priceOn(row[0], row[1], row[2]));
        }
    }

    private static void unitsAtTheirEnds() {
        Check.bounds(SETTLED, Check.ARGUMENT, "5 unit", 1, 1000, (h, n) -> h.unit(n));
        int[][] rows = {{1, 1, 1}, {1, 2, 2}, {1, 1000, 1000}, {999, 1000, 1000}, {1000, 1000, 1000},
            {1001, 1000, 2000}, {1000000, 1000, 1000000}, {999001, 1000, 1000000}, {999000, 1000, 999000},
            {1000000, 999, 1000998}, {1000000, 1, 1000000}};
        for (int[] row : rows) {
            Proratehouse house = new Proratehouse();
            FareTests.open(house, 0, 1, 10, row[0]);
            house.leg(0, 1, 0, 0);
            Check.due("5 one at first", 1, house.unit(row[1]));
            Check.due("5 " + row[0] + " by " + row[1], row[2], house.part(0, 1));
            Check.due("5 set again to the same", row[1], house.unit(row[1]));
        }
    }

    private static void taxesAtTheirEnds() {
        Check.bounds(SETTLED, Check.INDEX, "6 place", 0, 9, (h, n) -> taxed(h, n, 1, 1));
        Check.bounds(SETTLED, Check.ARGUMENT, "6 departs", 0, 10000, (h, n) -> taxed(h, 0, n, 1));
        Check.bounds(SETTLED, Check.ARGUMENT, "6 changes", 0, 10000, (h, n) -> taxed(h, 0, 1, n));
        Check.refuses(SETTLED, Check.INDEX, "6 none, departs too much", h -> taxed(h, 10, 10001, 0));
        Check.refuses(SETTLED, Check.INDEX, "6 none, changes below", h -> taxed(h, -1, 0, -1));
        for (int place = 0; place < 10; place++) {
            Proratehouse house = new Proratehouse();
            house.tax(place, 10000, 0);
            Check.due("6 departs at " + place, 10000, taxesByWayOf(house, place));
            house.tax(place, 0, 10000);
            Check.due("6 changes at " + place, 10000, taxesByWayOf(house, place));
            house.tax(place, 10000, 10000);
            Check.due("6 both at " + place, 20000, taxesByWayOf(house, place));
            Check.due("6 tickets of before", 10000, house.ofTicket(1, 1));
            house.tax(place, 0, 0);
            Check.due("6 none at " + place, 0, taxesByWayOf(house, place));
        }
    }

    private static void weightsAtTheirEnds() {
        Check.bounds(SETTLED, Check.INDEX, "7 one", 0, 9, (h, n) -> h.weight(n, another(n), 7));
        Check.bounds(SETTLED, Check.INDEX, "7 other", 0, 9, (h, n) -> h.weight(another(n), n, 7));
        Check.bounds(SETTLED, Check.ARGUMENT, "7 weight", 0, 9999, (h, n) -> h.weight(0, 1, n));
        for (int place = 0; place < 10; place++) {
            int same = place;
            Check.refuses(SETTLED, Check.ARGUMENT, "7 the same", h -> h.weight(same, same, 5));
        }
        Check.refuses(SETTLED, Check.INDEX, "7 none, and the same", h -> h.weight(10, 10, 5));
        Check.refuses(SETTLED, Check.INDEX, "7 none, weight below", h -> h.weight(-1, 0, -1));
        Check.refuses(SETTLED, Check.INDEX, "7 none, weight above", h -> h.weight(0, 10, 10000));
        // of 1000 cents by 300 and 100 miles; the weights 1 and 9999 stand in for the 300 miles
        int[][] rows = {{0, 750, 250}, {1, 9, 991}, {300, 750, 250}, {9999, 990, 10}};
        for (int[] row : rows) {
            Proratehouse house = bentHouse(400, 300, 100, 1000);
            Check.due("7 none before", 0, house.weight(1, 0, row[0]));
            Check.due("7 the same both ways", row[0], house.weight(0, 1, row[0]));
            int ticket = house.issue(0);
            Check.due("7 share by " + row[0], row[1], house.ofCoupon(ticket, 0, 1));
            Check.due("7 the other share by " + row[0], row[2], house.ofCoupon(ticket, 1, 1));
        }
    }

    private static void provisosAtTheirEnds() {
        Check.bounds(SETTLED, Check.INDEX, "8 carrier", 0, 4, (h, n) -> h.proviso(n, 1, 2, 7));
        Check.bounds(SETTLED, Check.INDEX, "8 from", 0, 9, (h, n) -> h.proviso(1, n, another(n), 7));
        Check.bounds(SETTLED, Check.INDEX, "8 to", 0, 9, (h, n) -> h.proviso(1, another(n), n, 7));
        Check.bounds(SETTLED, Check.ARGUMENT, "8 cents", -1, 1000000, (h, n) -> h.proviso(1, 1, 2, n));
        for (int place = 0; place < 10; place++) {
            int same = place;
            Check.refuses(SETTLED, Check.ARGUMENT, "8 the same", h -> h.proviso(4, same, same, 5));
        }
        Check.refuses(SETTLED, Check.INDEX, "8 no carrier, the same", h -> h.proviso(5, 1, 1, 5));
        Check.refuses(SETTLED, Check.INDEX, "8 no carrier, cents above", h -> h.proviso(-1, 1, 2, 1000001));
        Check.refuses(SETTLED, Check.INDEX, "8 no place, the same", h -> h.proviso(0, 10, 10, 5));
        Check.refuses(SETTLED, Check.INDEX, "8 no place, cents below", h -> h.proviso(0, 1, -1, -2));
        int[][] rows = {{-1, -1}, {0, 0}, {1000000, 1000000}};
        for (int[] row : rows) {
            Proratehouse house = new Proratehouse();
            Check.due("8 none at first", -1, house.proviso(0, 0, 9, row[0]));
            Check.due("8 the one before", row[1], house.proviso(0, 0, 9, -1));
            Check.due("8 none again", -1, house.proviso(0, 0, 9, -1));
        }
        Check.bounds(SETTLED, Check.ARGUMENT, "9 hundredths", 0, 100, (h, n) -> h.penalty(n));
        Check.answers(SETTLED, 7, "9 the one before", h -> h.penalty(100));
        Check.answers(NEW, 0, "9 none at first", h -> h.penalty(0));
    }

    // ---- promises 10 and 11

    private static void legsAtTheirEnds() {
        Check.Maker world = FareEdgeTests::world;
        Check.bounds(world, Check.INDEX, "10 from", 0, 9, (h, n) -> h.leg(n, another(n), 0, 0));
        Check.bounds(world, Check.INDEX, "10 to", 0, 9, (h, n) -> h.leg(another(n), n, 0, 0));
        Check.bounds(world, Check.INDEX, "10 carrier", 0, 4, (h, n) -> h.leg(0, 1, n, 0));
        Check.bounds(world, Check.ARGUMENT, "10 day", 0, 999, (h, n) -> h.leg(0, 1, 0, n));
        Check.bounds(() -> worldOnDay(5), Check.ARGUMENT, "10 day from 5 on", 5, 999,
                (h, n) -> h.leg(0, 1, 0, n));
        Check.bounds(() -> worldOnDay(999), Check.ARGUMENT, "10 day on the last one", 999, 999,
                (h, n) -> h.leg(0, 1, 0, n));
        for (int place = 0; place < 10; place++) {
            int same = place;
            Check.refuses(world, Check.ARGUMENT, "10 the same", h -> h.leg(same, same, 0, 0));
        }
        Check.Maker between = () -> {
            Proratehouse made = worldOnDay(2);
            made.leg(0, 1, 0, 4);
            return made;
        };
        Check.refuses(between, Check.ARGUMENT, "10 ahead of today, and of the leg", h -> h.leg(1, 2, 0, 1));
        Check.refuses(between, Check.STATE, "10 today, ahead of the leg", h -> h.leg(1, 2, 0, 2));
        Check.refuses(between, Check.STATE, "10 the day ahead of the leg", h -> h.leg(1, 2, 0, 3));
        Check.answers(between, 2, "10 on its day", h -> h.leg(1, 2, 0, 4));
        Check.answers(between, 2, "10 on the last day", h -> h.leg(1, 2, 0, 999));
        Check.refuses(between, Check.STATE, "10 from where the leg began", h -> h.leg(0, 1, 0, 4));
        Check.answers(between, 2, "10 back again", h -> h.leg(1, 0, 0, 4));
        Check.refuses(() -> worldOnDay(999), Check.ARGUMENT, "10 no day more", h -> h.leg(0, 1, 0, 1000));
    }

    private static void legsOfTwoReasons() {
        Check.refuses(SETTLED, Check.INDEX, "10 no place, the same", h -> h.leg(10, 10, 0, 3));
        Check.refuses(SETTLED, Check.INDEX, "10 no place, day above", h -> h.leg(2, -1, 0, 1000));
        Check.refuses(SETTLED, Check.INDEX, "10 no carrier, the same", h -> h.leg(2, 2, 5, 3));
        Check.refuses(SETTLED, Check.INDEX, "10 no carrier, day below", h -> h.leg(2, 1, -1, -1));
        Check.refuses(EIGHT_LEGS, Check.INDEX, "10 no place, full", h -> h.leg(0, 10, 0, 9));
        Check.refuses(EIGHT_LEGS, Check.INDEX, "10 no carrier, full", h -> h.leg(0, 1, 5, 9));
        Check.refuses(SETTLED, Check.INDEX, "10 no place, elsewhere", h -> h.leg(-1, 0, 0, 3));
        Check.refuses(SETTLED, Check.INDEX, "10 no carrier, elsewhere", h -> h.leg(0, 1, 5, 3));
        Check.refuses(SETTLED, Check.INDEX, "10 no carrier, earlier", h -> h.leg(2, 1, 5, 1));
        Check.refuses(NEW, Check.INDEX, "10 no carrier, no miles", h -> h.leg(0, 1, 5, 0));
        Check.refuses(EIGHT_LEGS, Check.INDEX, "10 all of it", h -> h.leg(10, 10, 5, 1000));
        Check.refuses(EIGHT_LEGS, Check.ARGUMENT, "10 the same, full", h -> h.leg(0, 0, 0, 9));
        Check.refuses(EIGHT_LEGS, Check.ARGUMENT, "10 day above, full", h -> h.leg(0, 1, 0, 1000));
        Check.refuses(SETTLED, Check.ARGUMENT, "10 the same, elsewhere", h -> h.leg(0, 0, 0, 3));
        Check.refuses(SETTLED, Check.ARGUMENT, "10 day above, elsewhere", h -> h.leg(0, 1, 0, 1000));
        Check.refuses(SETTLED, Check.ARGUMENT, "10 the same, earlier", h -> h.leg(2, 2, 0, 1));
        Check.refuses(NEW, Check.ARGUMENT, "10 the same, no miles", h -> h.leg(3, 3, 0, 0));
        Check.refuses(NEW, Check.ARGUMENT, "10 day above, no miles", h -> h.leg(3, 4, 0, 1000));
    }

    private static void wipesAtTheirEnds() {
        Check.answers(NEW, 0, "11 no leg", h -> h.wipe());
        Check.answers(() -> FareTests.line(1), 1, "11 one leg", h -> h.wipe());
        Check.answers(EIGHT_LEGS, 8, "11 eight legs", h -> h.wipe());
        Check.Maker wiped = () -> {
            Proratehouse made = FareTests.eightLegs();
            made.wipe();
            return made;
        };
        Check.refuses(wiped, Check.INDEX, "11 no point is left", h -> h.part(0, 1));
        Check.refuses(wiped, Check.STATE, "11 no journey to issue", h -> h.issue(0));
        Check.answers(wiped, -1, "11 no price", h -> h.price());
        Check.answers(wiped, -1, "11 no price anew", h -> h.priceAnew());
        Check.answers(wiped, -1, "11 no cuts", h -> h.cuts());
        Proratehouse again = wiped.make();
        for (int k = 1; k <= 8; k++) {
            Check.due("11 eight legs anew", k, again.leg(k % 2, 1 - k % 2, 4, 0));
        }
    }

    // ---- promise 12

    private static void pointsAtTheirEnds() {
        Check.bounds(EIGHT_STEPS, Check.INDEX, "12 from of nine points", 0, 7, (h, n) -> h.part(n, n == 8 ? 9 : 8));
        Check.bounds(EIGHT_STEPS, Check.INDEX, "12 to of nine points", 1, 8, (h, n) -> h.part(n == 0 ? -1 : 0, n));
        Check.bounds(() -> FareTests.line(1), Check.INDEX, "12 to of two points", 1, 1,
                (h, n) -> h.part(n == 0 ? -1 : 0, n));
        Check.refuses(EIGHT_STEPS, Check.ARGUMENT, "12 the first twice", h -> h.part(0, 0));
        Check.refuses(EIGHT_STEPS, Check.ARGUMENT, "12 the last twice", h -> h.part(8, 8));
        Check.refuses(EIGHT_STEPS, Check.ARGUMENT, "12 the last ahead of the first", h -> h.part(8, 0));
        Check.refuses(EIGHT_STEPS, Check.ARGUMENT, "12 the one ahead", h -> h.part(5, 4));
        Check.answers(EIGHT_STEPS, 100, "12 the first leg", h -> h.part(0, 1));
        Check.answers(EIGHT_STEPS, 100, "12 the last leg", h -> h.part(7, 8));
        Check.refuses(EIGHT_STEPS, Check.INDEX, "12 none, twice", h -> h.part(9, 9));
        Check.refuses(EIGHT_STEPS, Check.INDEX, "12 none below, twice", h -> h.part(-1, -1));
        Check.refuses(EIGHT_STEPS, Check.INDEX, "12 from none, not later", h -> h.part(9, 8));
        Check.refuses(EIGHT_STEPS, Check.INDEX, "12 to none, not later", h -> h.part(0, -1));
        Check.refuses(NEW, Check.INDEX, "12 without a leg, the first", h -> h.part(0, 0));
        Check.refuses(NEW, Check.INDEX, "12 without a leg, not later", h -> h.part(1, 0));
    }

    /** 0 - 1 - 2 in one day, with miles of both legs, direct ones, and a fare of some cents. */
    private static Proratehouse bentHouse(int direct, int first, int second, int cents) {
        Proratehouse house = new Proratehouse();
        house.miles(0, 1, first);
        house.miles(1, 2, second);
        FareTests.open(house, 0, 2, direct, cents);
        house.leg(0, 1, 0, 0);
        house.leg(1, 2, 0, 0);
        return house;
    }

    private static void surchargesAtTheirEnds() {
        // 120 hundredths of 9999 are 11998; more by 5, 10, 15, 20, 25: 12597, 13197, 13797, 14397, 14997
        int[][] rows = {{11997, 1000}, {11998, 1000}, {11999, 1050}, {12597, 1050}, {12598, 1100},
            {13197, 1100}, {13198, 1150}, {13797, 1150}, {13798, 1200}, {14397, 1200}, {14398, 1250},
            {14997, 1250}, {14998, -3}, {19998, -3}};
        for (int[] row : rows) {
            Check.due("12 of 9999 direct miles " + row[0], row[1], FareTests.bent(9999, 9999, row[0] - 9999));
        }
        // direct miles, miles of the legs, price: few miles, where much is lost by rounding down twice
        int[][] few = {{1, 2, -3}, {2, 2, 1000}, {2, 3, -3}, {3, 3, 1000}, {3, 4, -3}, {4, 4, 1000},
            {4, 5, 1250}, {4, 6, -3}, {5, 6, 1000}, {5, 7, 1200}, {5, 8, -3}, {6, 7, 1000}, {6, 8, 1150},
            {6, 9, -3}, {9, 10, 1000}, {9, 11, 1100}, {9, 12, 1200}, {9, 13, -3}, {10, 12, 1000},
            {10, 13, 1100}, {10, 14, 1200}, {10, 15, 1250}, {10, 16, -3}};
        for (int[] row : few) {
            Check.due("12 of " + row[0] + " direct miles " + row[1], row[2],
                    FareTests.bent(row[0], row[1] - 1, 1));
        }
    }

    private static void roundingAtItsEnds() {
        // cents, unit, price with 5 hundredths more (121 miles where 120 are allowed)
        int[][] rows = {{1, 1, 2}, {19, 1, 20}, {20, 1, 21}, {21, 1, 23}, {100, 1, 105}, {100, 105, 105},
            {100, 104, 208}, {101, 106, 212}, {101, 107, 107}, {1000000, 1000, 1050000},
            {999999, 1000, 1050000}, {952, 1000, 1000}, {953, 1000, 2000}};
        for (int[] row : rows) {
            Proratehouse house = bentHouse(100, 60, 61, row[0]);
            house.unit(row[1]);
            Check.due("12 5 more of " + row[0] + " by " + row[1], row[2], house.part(0, 2));
        }
        int[][] most = {{1000000, 1, 1250000}, {1000000, 1000, 1250000}, {1000000, 999, 1250748}};
        for (int[] row : most) {
            Proratehouse house = bentHouse(100, 100, 50, row[0]);
            house.unit(row[1]);
            Check.due("12 25 more by " + row[1], row[2], house.part(0, 2));
            Check.due("13 25 more by " + row[1], row[2], house.price());
            Check.due("14 25 more by " + row[1], row[2], house.priceAnew());
        }
    }

    /** 0 to 8 by legs on these days, with a fare for the whole of 5000 that allows some stops. */
    private static long wholeWithStops(int stops, int... days) {
        Proratehouse house = new Proratehouse();
        for (int k = 0; k < 8; k++) {
            house.miles(k, k + 1, 100);
            house.leg(k, k + 1, 0, days[k]);
        }
        house.miles(0, 8, 800);
        house.fare(0, 8, 5000, 0, 999, stops);
        return house.part(0, 8);
    }

    private static void stopsAtTheirEnds() {
        Check.due("12 seven stops", 5000, wholeWithStops(7, 0, 1, 2, 3, 4, 5, 6, 999));
        Check.due("12 seven stops of six", -2, wholeWithStops(6, 0, 1, 2, 3, 4, 5, 6, 7));
        Check.due("12 six stops", 5000, wholeWithStops(6, 0, 1, 2, 3, 4, 5, 6, 6));
        Check.due("12 six stops of five", -2, wholeWithStops(5, 0, 0, 2, 3, 4, 5, 6, 7));
        Check.due("12 one stop", 5000, wholeWithStops(1, 0, 0, 0, 0, 0, 0, 0, 1));
        Check.due("12 one stop of none", -2, wholeWithStops(0, 0, 0, 0, 0, 0, 0, 0, 1));
        Check.due("12 one stop of none, the first", -2, wholeWithStops(0, 0, 1, 1, 1, 1, 1, 1, 1));
        Check.due("12 no stop", 5000, wholeWithStops(0, 7, 7, 7, 7, 7, 7, 7, 7));
    }

    private static void reasonsOfTwo() {
        Proratehouse house = new Proratehouse();
        house.miles(0, 1, 100);
        house.miles(1, 2, 100);
        house.miles(0, 2, 10);
        house.leg(0, 1, 0, 0);
        house.leg(1, 2, 0, 1);
        Check.due("12 no fare, and too far", -1, house.part(0, 2));
        house.fare(0, 2, 100, 0, 999, 0);
        Check.due("12 too many stops, and too far", -2, house.part(0, 2));
        house.fare(0, 2, 100, 0, 999, 1);
        Check.due("12 too far alone", -3, house.part(0, 2));
        house.withdraw(1);
        house.withdraw(0);
        Check.due("12 the fares were withdrawn", -1, house.part(0, 2));
        house.fare(0, 2, 70, 1, 999, 1);
        Check.due("12 none in force today", -1, house.part(0, 2));
        house.fare(0, 2, 70, 0, 0, 0);
        Check.due("12 the one with the stop is not in force", -2, house.part(0, 2));
        house.miles(0, 2, 9999);
        Check.due("12 still", -2, house.part(0, 2));
        house.pass(1);
        Check.due("12 it is in force", 70, house.part(0, 2));
    }

    private static void faresBetweenAtTheirEnds() {
        int[][] rows = {{999, 1000}, {1000, 1000}, {1001, 1001}};
        for (int[] row : rows) {
            Proratehouse house = bentHouse(100, 60, 60, 1000);
            house.fare(0, 1, row[0], 0, 0, 0);
            Check.due("12 one between of " + row[0], row[1], house.part(0, 2));
            house.pass(1);
            Check.due("12 one between, gone by", 1000, house.part(0, 2));
        }
        // by way of the place of the end: its lower fare is one between, and stays the lower one
        Proratehouse house = new Proratehouse();
        house.miles(0, 1, 100);
        house.miles(1, 2, 10);
        house.leg(0, 1, 0, 0);
        house.leg(1, 2, 0, 1);
        house.leg(2, 1, 0, 2);
        house.fare(0, 1, 500, 0, 999, 1);
        Check.due("12 by way of the end, too many stops", -2, house.part(0, 3));
        house.fare(0, 1, 900, 0, 999, 2);
        Check.due("12 by way of the end", 900, house.part(0, 3));
        Check.due("12 to the end at once", 500, house.part(0, 1));
        // by way of the place of the beginning: there is no fare from a place to itself
        house = new Proratehouse();
        house.miles(0, 1, 10);
        FareTests.open(house, 0, 2, 100, 700);
        house.leg(0, 1, 0, 0);
        house.leg(1, 0, 0, 0);
        house.leg(0, 2, 0, 0);
        Check.due("12 by way of the beginning", 700, house.part(0, 3));
        Check.due("12 a round has no fare", -1, house.part(0, 2));
        betweenTheEndsOfEight();
    }

    /** Of 0 to 8 the points 1 and 7 are between, 0 and 8 are not. */
    private static void betweenTheEndsOfEight() {
        for (int point = 1; point <= 8; point++) {
            Proratehouse house = new Proratehouse();
            for (int k = 0; k < 8; k++) {
                house.miles(k, k + 1, 100);
                house.leg(k, k + 1, 0, 0);
            }
            FareTests.open(house, 0, 8, 800, 1000);
            house.fare(0, point, 2000, 0, 999, 0);
            Check.due("12 between at " + point, point < 8 ? 2000 : 1000, house.part(0, 8));
        }
    }

    // ---- promises 13 to 15

    /** 0 to 8 by legs of 100 miles, with fares of 100 for the steps from one of these points to the next. */
    private static Proratehouse stepsBy(int... points) {
        Proratehouse house = new Proratehouse();
        for (int k = 0; k < 8; k++) {
            house.miles(k, k + 1, 100);
            house.leg(k, k + 1, 0, 0);
        }
        for (int k = 1; k < points.length; k++) {
            int steps = points[k] - points[k - 1];
            FareTests.open(house, points[k - 1], points[k], 100 * steps, 100);
        }
        return house;
    }

    private static void waysAtTheirEnds() {
        FareTests.priced("13 no leg", new Proratehouse(), -1, -1);
        FareTests.priced("13 no fare", stepsBy(), -1, -1);
        FareTests.priced("13 no cut", stepsBy(0, 8), 100, 0);
        FareTests.priced("13 the first cut there may be", stepsBy(0, 1, 8), 200, 2);
        FareTests.priced("13 the last cut there may be", stepsBy(0, 7, 8), 200, 128);
        FareTests.priced("13 all cuts there may be", stepsBy(0, 1, 2, 3, 4, 5, 6, 7, 8), 800, 254);
        FareTests.priced("13 the first leg has no price", stepsBy(1, 2, 3, 4, 5, 6, 7, 8), -1, -1);
        FareTests.priced("13 the last leg has no price", stepsBy(0, 1, 2, 3, 4, 5, 6, 7), -1, -1);
        FareTests.priced("13 ways of the same sum", sameSums(), 200, 2);
        Proratehouse single = new Proratehouse();
        single.miles(0, 1, 10);
        single.leg(0, 1, 0, 0);
        FareTests.priced("13 one leg without a fare", single, -1, -1);
        single.fare(0, 1, 1, 0, 0, 0);
        FareTests.priced("13 one leg", single, 1, 0);
        // the cuts at 1 to 6 are 126, the one at 7 is 128
        Proratehouse house = stepsBy(0, 1, 2, 3, 4, 5, 6);
        FareTests.open(house, 6, 8, 200, 200);
        FareTests.open(house, 0, 7, 700, 700);
        FareTests.open(house, 7, 8, 100, 100);
        FareTests.priced("15 six cuts are lower than the last one", house, 800, 126);
        house.fare(0, 7, 699, 0, 999, 7);
        FareTests.priced("15 a cent less by the last one", house, 799, 128);
    }

    /** Each cut by itself makes two parts of 100 cents; that at 1 is the lowest. */
    private static Proratehouse sameSums() {
        Proratehouse house = stepsBy();
        for (int k = 7; k >= 1; k--) {
            FareTests.open(house, 0, k, 100 * k, 100);
            FareTests.open(house, k, 8, 800 - 100 * k, 100);
        }
        return house;
    }

    public static void main(String[] args) {
        nothingThereYet();
        milesAtTheirEnds();
        faresAtTheirEnds();
        fortyFares();
        daysInForce();
        unitsAtTheirEnds();
        taxesAtTheirEnds();
        weightsAtTheirEnds();
        provisosAtTheirEnds();
        legsAtTheirEnds();
        legsOfTwoReasons();
        wipesAtTheirEnds();
        pointsAtTheirEnds();
        surchargesAtTheirEnds();
        roundingAtItsEnds();
        stopsAtTheirEnds();
        reasonsOfTwo();
        faresBetweenAtTheirEnds();
        waysAtTheirEnds();
        Check.end("promises 1 to 15 at their edges");
    }
}
