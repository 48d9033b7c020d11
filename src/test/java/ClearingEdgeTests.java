/** Promises 22 to 25 and 28, and what 33 tells of clearings, at their edges, sentence by sentence. */
public final class ClearingEdgeTests {
    private static final int WAITS = 0;
    private static final int PAID = 1;
    private static final int BACK = 2;
    private static final int RETURNED = 3;
    private static final int CLOSED = 4;
    private static final Check.Maker NEW = Proratehouse::new;
    private static final Check.Maker ROUND = ClearingTests::round;
    private static final Check.Maker CLEARED = ClearingTests::cleared;
    private static final Check.Maker REJECTED = ClearingTests::rejected;
    private static final Check.Maker RETURNED_ONE = ClearingTests::returned;
    private static final Check.Maker CLOSED_ONE = ClearingTests::closed;

    private static Proratehouse after(Proratehouse house, int clearings) {
        for (int k = 0; k < clearings; k++) {
            house.clear();
        }
        return house;
    }

    private static long rebilled(Proratehouse house, int bill) {
        house.rebill(bill);
        return house.ofBill(bill, 0);
    }

    /** One bill of some cents from carrier 0 to carrier 1; of none by a proviso. */
    private static Proratehouse bill(int cents) {
        Proratehouse house = new Proratehouse();
        house.miles(0, 1, 100);
        house.fare(0, 1, Math.max(1, cents), 0, 999, 0);
        house.proviso(1, 0, 1, cents);
        house.leg(0, 1, 1, 0);
        house.issue(0);
        house.fly(0, 0);
        return house;
    }

    /** One bill of 999 cents from carrier 0 to carrier 1, rejected so often, and PAID. */
    private static Proratehouse paidAfter(int rejections) {
        Proratehouse house = bill(999);
        house.clear();
        for (int k = 0; k < rejections; k++) {
            house.reject(0);
            house.clear();
            house.rebill(0);
            house.clear();
        }
        return house;
    }

    // ---- promise 22

    private static void clearingsAtTheirEnds() {
        Check.answers(NEW, 0, "22 no bill", h -> h.clear());
        Check.answers(NEW, 0, "33 no clearing", h -> h.of(4));
        Proratehouse house = after(new Proratehouse(), 2);
        Check.due("33 clearings of nothing are some", 2, house.of(4));
        for (int cents : new int[] {0, 1, 999999, 1000000}) {
            house = bill(cents);
            int price = Math.max(1, cents);
            ClearingTests.told("22 ahead of it", house, 0, WAITS, 0, 0);
            Check.due("22 a bill of " + cents, cents, house.clear());
            ClearingTests.told("22 a bill of " + cents, house, 0, PAID, 0, 1);
            ClearingTests.cash("22 a bill of " + cents, house, price - cents, cents, 0, 0, 0);
            Check.due("22 it is settled once", 0, house.clear());
            ClearingTests.told("22 it is settled once", house, 0, PAID, 0, 1);
        }
        severalNets();
    }

    private static void severalNets() {
        Proratehouse house = ClearingTests.market();
        ClearingTests.bill(house, 0, 0, 1);
        ClearingTests.bill(house, 1, 0, 2);
        ClearingTests.bill(house, 2, 0, 4);
        Check.due("22 several above 0", 999 + 500 + 300, house.clear());
        ClearingTests.cash("22 several above 0", house, 0, 999, 500, 0, 300);
        ClearingTests.bill(house, 3, 1, 0);
        ClearingTests.bill(house, 3, 2, 0);
        Check.due("22 one above 0", 402, house.clear());
        ClearingTests.cash("22 one above 0", house, 402, 999, 500, 0, 300);
        house.reject(3);
        house.reject(4);
        ClearingTests.bill(house, 3, 1, 0);
        ClearingTests.bill(house, 3, 2, 0);
        Check.due("22 what goes back is what is paid", 0, house.clear());
        ClearingTests.told("22 what goes back", house, 3, RETURNED, 1, 3);
        ClearingTests.told("22 what is paid", house, 5, PAID, 0, 3);
        ClearingTests.cash("22 nets of 0", house, 402, 1200, 701, 0, 300);
    }

    private static void carriersInDefault() {
        // the bill goes from 0 to 1
        boolean[] both = {false, true};
        for (boolean payer : both) {
            for (boolean payee : both) {
                Proratehouse house = bill(999);
                house.fails(0, payer);
                house.fails(1, payee);
                house.fails(2, true);
                boolean isSettled = !payer && !payee;
                Check.due("22 neither is in default", isSettled ? 999 : 0, house.clear());
                ClearingTests.told("22 neither is in default", house, 0, isSettled ? PAID : WAITS, 0,
                        isSettled ? 1 : 0);
            }
        }
        for (int carrier = 0; carrier < 2; carrier++) {
            Proratehouse house = paidAfter(0);
            house.reject(0);
            house.fails(carrier, true);
            Check.due("22 goes BACK in default", 0, house.clear());
            ClearingTests.told("22 goes BACK in default", house, 0, BACK, 1, 1);
            house.fails(carrier, false);
            Check.due("22 no more", 999, house.clear());
            ClearingTests.told("22 no more", house, 0, RETURNED, 1, 3);
        }
        Proratehouse house = ClearingTests.round();
        for (int carrier = 0; carrier < 5; carrier++) {
            Check.due("25 none undone", 0, house.fails(carrier, true));
        }
        Check.due("33 all carriers", 31, house.of(5));
        Check.due("22 all carriers", 0, house.clear());
        for (int bill = 0; bill < 3; bill++) {
            ClearingTests.told("22 all carriers", house, bill, WAITS, 0, 0);
        }
        for (int carrier = 0; carrier < 5; carrier++) {
            Check.due("25 none undone", 0, house.fails(carrier, false));
        }
        Check.due("33 no carrier", 0, house.of(5));
        Check.due("22 no carrier", 699, house.clear());
    }

    // ---- promise 23

    private static void rejectionsAtTheirEnds() {
        Check.bounds(CLEARED, Check.INDEX, "23 bill of three", 0, 2, (h, n) -> h.reject(n));
        Check.bounds(() -> paidAfter(0), Check.INDEX, "23 bill of one", 0, 0, (h, n) -> h.reject(n));
        Check.refuses(NEW, Check.INDEX, "23 no bill", h -> h.reject(0));
        Check.answers(CLEARED, 1, "23 by the latest", h -> h.reject(0));
        Check.answers(() -> after(ClearingTests.cleared(), 1), 1, "23 by the one ahead", h -> h.reject(0));
        for (int more : new int[] {2, 3, 9}) {
            Check.refuses(() -> after(ClearingTests.cleared(), more), Check.STATE, "23 by an earlier one",
                    h -> h.reject(0));
        }
        Check.Maker late = () -> after(ClearingTests.round(), 5);
        Check.refuses(late, Check.STATE, "23 by the first of five", h -> h.reject(0));
        // PAID by a later clearing than the first time
        Check.answers(() -> paidAfter(1), 2, "23 PAID again, by the latest", h -> h.reject(0));
        Check.answers(() -> after(paidAfter(1), 1), 2, "23 PAID again, by the one ahead", h -> h.reject(0));
        Check.refuses(() -> after(paidAfter(1), 2), Check.STATE, "23 PAID again, by an earlier one",
                h -> h.reject(0));
        Check.answers(() -> paidAfter(2), 3, "23 the third time", h -> h.reject(0));
        Check.answers(() -> after(paidAfter(2), 1), 3, "23 the third time, by the one ahead", h -> h.reject(0));
        Check.refuses(() -> after(paidAfter(2), 2), Check.STATE, "23 the third time, too late", h -> h.reject(0));
        Check.refuses(ROUND, Check.STATE, "23 WAITS", h -> h.reject(2));
        Check.refuses(REJECTED, Check.STATE, "23 twice at once", h -> h.reject(0));
        Check.refuses(RETURNED_ONE, Check.STATE, "23 RETURNED", h -> h.reject(0));
        Check.refuses(CLOSED_ONE, Check.STATE, "23 a fourth time", h -> h.reject(0));
        Check.Maker undone = () -> {
            Proratehouse made = ClearingTests.cleared();
            made.fails(0, true);
            return made;
        };
        Check.refuses(undone, Check.STATE, "23 undone", h -> h.reject(0));
        Check.answers(undone, 1, "23 one of others", h -> h.reject(1));
        Check.Maker failed = () -> {
            Proratehouse made = after(ClearingTests.cleared(), 1);
            made.fails(0, true);
            return made;
        };
        Check.answers(failed, 1, "23 of a carrier in default", h -> h.reject(0));
    }

    private static void amountsThatGoBack() {
        // the amount, and what goes back the third time
        int[][] rows = {{0, 0}, {1, 0}, {2, 1}, {3, 1}, {999, 499}, {1000000, 500000}, {999999, 499999}};
        for (int[] row : rows) {
            Proratehouse house = bill(row[0]);
            int price = Math.max(1, row[0]);
            house.clear();
            for (int turn = 1; turn <= 3; turn++) {
                Check.due("23 time", turn, house.reject(0));
                int back = turn < 3 ? row[0] : row[1];
                Check.due("23 of " + row[0] + " the time " + turn, back, house.clear());
                Check.due("23 what it is", turn < 3 ? RETURNED : CLOSED, house.ofBill(0, 0));
                Check.due("23 its amount", row[0], house.ofBill(0, 1));
                ClearingTests.cash("23 of " + row[0], house, price - row[0] + back, row[0] - back, 0, 0, 0);
                if (turn < 3) {
                    house.rebill(0);
                    house.clear();
                }
            }
            ClearingTests.told("23 of " + row[0], house, 0, CLOSED, 3, 6);
        }
    }

    // ---- promise 24

    private static void billingsAtTheirEnds() {
        Check.Maker all = () -> {
            Proratehouse made = ClearingTests.cleared();
            for (int bill = 0; bill < 3; bill++) {
                made.reject(bill);
            }
            made.clear();
            return made;
        };
        Check.bounds(all, Check.INDEX, "24 bill of three", 0, 2, ClearingEdgeTests::rebilled);
        Check.refuses(NEW, Check.INDEX, "24 no bill", h -> rebilled(h, 0));
        Check.answers(all, WAITS, "24 RETURNED", h -> rebilled(h, 0));
        Check.answers(() -> after(all.make(), 9), WAITS, "24 RETURNED long ago", h -> rebilled(h, 2));
        Check.refuses(ROUND, Check.STATE, "24 WAITS", h -> rebilled(h, 0));
        Check.refuses(CLEARED, Check.STATE, "24 PAID", h -> rebilled(h, 0));
        Check.refuses(REJECTED, Check.STATE, "24 BACK", h -> rebilled(h, 0));
        Check.refuses(CLOSED_ONE, Check.STATE, "24 CLOSED", h -> rebilled(h, 0));
        Check.Maker twice = () -> {
            Proratehouse made = ClearingTests.returned();
            made.rebill(0);
            return made;
        };
        Check.refuses(twice, Check.STATE, "24 twice", h -> rebilled(h, 0));
        Check.Maker undone = () -> {
            Proratehouse made = ClearingTests.returned();
            made.fails(0, true);
            return made;
        };
        Check.refuses(undone, Check.STATE, "24 undone, it goes BACK", h -> rebilled(h, 0));
        Check.Maker failed = () -> {
            Proratehouse made = after(ClearingTests.returned(), 1);
            made.fails(0, true);
            return made;
        };
        Check.answers(failed, WAITS, "24 of a carrier in default", h -> rebilled(h, 0));
    }

    // ---- promise 25

    private static void defaultsAtTheirEnds() {
        for (Check.Maker maker : new Check.Maker[] {NEW, ROUND, CLEARED, CLOSED_ONE}) {
            Check.bounds(maker, Check.INDEX, "25 carrier, in", 0, 4, (h, n) -> h.fails(n, true));
            Check.bounds(maker, Check.INDEX, "25 carrier, out", 0, 4, (h, n) -> h.fails(n, false));
        }
        for (int carrier = 0; carrier < 5; carrier++) {
            Proratehouse house = new Proratehouse();
            Check.due("25 in", 0, house.fails(carrier, true));
            Check.due("33 its bit", 1 << carrier, house.of(5));
            Check.due("25 in again", 0, house.fails(carrier, true));
            Check.due("33 its bit stays", 1 << carrier, house.of(5));
            Check.due("25 out", 0, house.fails(carrier, false));
            Check.due("33 no bit", 0, house.of(5));
            Check.due("25 out again", 0, house.fails(carrier, false));
            Check.due("33 no bit still", 0, house.of(5));
        }
        Check.answers(ROUND, 0, "25 no clearing yet", h -> h.fails(0, true));
        Check.answers(CLEARED, 2, "25 by the latest", h -> h.fails(0, true));
        Check.answers(() -> after(ClearingTests.cleared(), 1), 0, "25 by the one ahead", h -> h.fails(0, true));
        Check.answers(CLEARED, 0, "25 one without bills", h -> h.fails(4, true));
        Check.answers(CLEARED, 0, "25 out, and was not in", h -> h.fails(0, false));
        Check.answers(() -> bill(0), 0, "25 a bill of none that WAITS", h -> h.fails(0, true));
        Check.answers(() -> after(bill(0), 1), 1, "25 a bill of none", h -> h.fails(0, true));
        Check.answers(() -> after(bill(5), 1), 1, "25 what it is owed", h -> h.fails(1, true));
        Check.answers(() -> after(bill(5), 1), 0, "25 of others", h -> h.fails(2, true));
        Check.answers(REJECTED, 1, "25 not the one rejected since", h -> h.fails(0, true));
        Check.answers(RETURNED_ONE, 1, "25 RETURNED by the latest", h -> h.fails(1, true));
        Check.answers(() -> after(ClearingTests.returned(), 1), 0, "25 RETURNED earlier", h -> h.fails(1, true));
        Check.answers(CLOSED_ONE, 1, "25 CLOSED by the latest", h -> h.fails(0, true));
        Check.answers(() -> after(ClearingTests.closed(), 1), 0, "25 CLOSED earlier", h -> h.fails(0, true));
        Check.Maker rebilled = () -> {
            Proratehouse made = ClearingTests.returned();
            made.rebill(0);
            return made;
        };
        Check.answers(rebilled, 0, "25 billed again since", h -> h.fails(0, true));
    }

    /** In default, and again: what was undone once stays so until it is settled anew. */
    private static void undoneTwice() {
        for (int carrier = 0; carrier < 2; carrier++) {
            Proratehouse house = paidAfter(0);
            Check.due("25 undone", 1, house.fails(carrier, true));
            ClearingTests.told("25 undone", house, 0, WAITS, 0, 0);
            ClearingTests.cash("25 undone", house, 999, 0, 0, 0, 0);
            Check.due("25 in already", 0, house.fails(carrier, true));
            house.fails(carrier, false);
            Check.due("25 in anew, nothing is left", 0, house.fails(carrier, true));
            Check.due("25 nor by the other", 0, house.fails(1 - carrier, true));
            ClearingTests.cash("25 undone once", house, 999, 0, 0, 0, 0);
            house.fails(carrier, false);
            house.fails(1 - carrier, false);
            Check.due("25 settled anew", 999, house.clear());
            ClearingTests.told("25 settled anew", house, 0, PAID, 0, 2);
            Check.due("25 undone again", 1, house.fails(1 - carrier, true));
            ClearingTests.told("25 undone again", house, 0, WAITS, 0, 0);
        }
    }

    /** A third rejection that is undone is no rejection less: it goes BACK, and is CLOSED again. */
    private static void undoneAtTheThird() {
        for (int rejections = 1; rejections <= 3; rejections++) {
            Proratehouse house = paidAfter(rejections - 1);
            house.reject(0);
            house.clear();
            int back = rejections < 3 ? 999 : 499;
            ClearingTests.cash("25 ahead of it", house, back, 999 - back, 0, 0, 0);
            Check.due("25 undone", 1, house.fails(1, true));
            ClearingTests.told("25 undone", house, 0, BACK, rejections, 0);
            ClearingTests.cash("25 undone", house, 0, 999, 0, 0, 0);
            house.fails(1, false);
            Check.due("25 goes back again", back, house.clear());
            ClearingTests.told("25 goes back again", house, 0, rejections < 3 ? RETURNED : CLOSED, rejections,
                    2 * rejections + 1);
            ClearingTests.cash("25 goes back again", house, back, 999 - back, 0, 0, 0);
        }
    }

    // ---- promise 28

    private static void billsAtTheirEnds() {
        Check.bounds(CLEARED, Check.INDEX, "28 bill of three", 0, 2, (h, n) -> h.ofBill(n, 0));
        Check.bounds(() -> bill(1), Check.INDEX, "28 bill of one", 0, 0, (h, n) -> h.ofBill(n, 5));
        Check.bounds(CLEARED, Check.ARGUMENT, "28 what", 0, 5, (h, n) -> h.ofBill(2, n));
        Check.refuses(NEW, Check.INDEX, "28 no bill at all", h -> h.ofBill(0, 0));
        Check.refuses(NEW, Check.INDEX, "28 no bill at all, what above", h -> h.ofBill(0, 6));
        Check.refuses(CLEARED, Check.INDEX, "28 no bill, what below", h -> h.ofBill(3, -1));
        Check.refuses(CLEARED, Check.INDEX, "28 no bill, what above", h -> h.ofBill(-1, 6));
        for (int cents : new int[] {0, 1, 1000000}) {
            Check.answers(() -> bill(cents), cents, "28 its amount", h -> h.ofBill(0, 1));
        }
        Check.answers(() -> bill(5), 0, "28 not settled", h -> h.ofBill(0, 5));
        Check.answers(() -> after(bill(5), 9), 1, "28 settled long ago", h -> h.ofBill(0, 5));
        Check.answers(() -> after(bill(5), 9), PAID, "28 PAID long ago", h -> h.ofBill(0, 0));
        Check.answers(REJECTED, 1, "28 settled last, ahead of a rejection", h -> h.ofBill(0, 5));
        Check.answers(CLOSED_ONE, 3, "28 the most rejections", h -> h.ofBill(0, 4));
        Check.answers(NEW, 0, "33 no bill", h -> h.of(3));
        Check.answers(CLEARED, 3, "33 settled ones are bills", h -> h.of(3));
        Check.answers(CLOSED_ONE, 3, "33 closed ones are bills", h -> h.of(3));
    }

    public static void main(String[] args) {
        clearingsAtTheirEnds();
        carriersInDefault();
        rejectionsAtTheirEnds();
        amountsThatGoBack();
        billingsAtTheirEnds();
        defaultsAtTheirEnds();
        undoneTwice();
        undoneAtTheThird();
        billsAtTheirEnds();
        Check.end("promises 22 to 25 and 28 at their edges");
    }
}
