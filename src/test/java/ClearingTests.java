/** Promises 22 to 25 and 28: bills, clearings, rejections and defaults, reckoned by hand. */
public final class ClearingTests {
    private static final int WAITS = 0;
    private static final int PAID = 1;
    private static final int BACK = 2;
    private static final int RETURNED = 3;
    private static final int CLOSED = 4;

    /** A step from each place to the next one for 999, 500, 300 and 201 cents, without taxes. */
    static Proratehouse market() {
        Proratehouse house = new Proratehouse();
        int[] cents = {999, 500, 300, 201};
        for (int k = 0; k < 4; k++) {
            house.miles(k, k + 1, 100);
            house.fare(k, k + 1, cents[k], 0, 999, 7);
        }
        return house;
    }

    /** Flies from the place to the next one: a bill from the issuer to the carrier. */
    static int bill(Proratehouse house, int place, int issuer, int carrier) {
        house.leg(place, place + 1, carrier, house.of(0));
        return house.fly(house.issue(issuer), 0);
    }

    /** Three bills: 0 owes 999 to 1, 1 owes 500 to 2, 2 owes 300 to 0. */
    static Proratehouse round() {
        Proratehouse house = market();
        Check.due("bill", 0, bill(house, 0, 0, 1));
        Check.due("bill", 1, bill(house, 1, 1, 2));
        Check.due("bill", 2, bill(house, 2, 2, 0));
        return house;
    }

    static Proratehouse cleared() {
        Proratehouse house = round();
        house.clear();
        return house;
    }

    static void told(String what, Proratehouse house, int bill, int status, int rejections, int by) {
        Check.due(what + " status of " + bill, status, house.ofBill(bill, 0));
        Check.due(what + " rejections of " + bill, rejections, house.ofBill(bill, 4));
        Check.due(what + " clearing of " + bill, by, house.ofBill(bill, 5));
    }

    static void cash(String what, Proratehouse house, long... due) {
        for (int carrier = 0; carrier < due.length; carrier++) {
            Check.due(what + " cash of " + carrier, due[carrier], house.cash(carrier));
            Check.due(what + " cashAnew of " + carrier, due[carrier], house.cashAnew(carrier));
        }
    }

    private static void promise22() {
        Proratehouse house = round();
        cash("22 none yet", house, 999, 500, 300, 0, 0);
        // the nets are 300 - 999, 999 - 500 and 500 - 300
        Check.due("22 nets above 0", 699, house.clear());
        cash("22", house, 300, 999, 500, 0, 0);
        for (int bill = 0; bill < 3; bill++) {
            told("22", house, bill, PAID, 0, 1);
        }
        Check.due("22 nothing to clear", 0, house.clear());
        Check.due("22 it is one all the same", 2, house.of(4));
        Check.due("22 rejected", 1, house.reject(1));
        bill(house, 3, 2, 1);
        // 500 goes back from 2 to 1, and 201 goes from 2 to 1
        Check.due("22 both manners", 701, house.clear());
        told("22 goes back", house, 1, RETURNED, 1, 3);
        told("22 waited", house, 3, PAID, 0, 3);
        cash("22 both manners", house, 300, 1700, 0, 0, 0);
        house = market();
        bill(house, 0, 3, 4);
        bill(house, 0, 4, 3);
        Check.due("22 nets of 0", 0, house.clear());
        told("22 nets of 0", house, 0, PAID, 0, 1);
        told("22 nets of 0", house, 1, PAID, 0, 1);
        cash("22 nets of 0", house, 0, 0, 0, 999, 999);
        defaultsInClearings();
    }

    private static void defaultsInClearings() {
        Proratehouse house = round();
        Check.due("22 in default", 0, house.fails(1, true));
        Check.due("22 only that of 2 and 0", 300, house.clear());
        told("22 owed by it", house, 1, WAITS, 0, 0);
        told("22 owed to it", house, 0, WAITS, 0, 0);
        told("22 of others", house, 2, PAID, 0, 1);
        house.reject(2);
        Check.due("22 rejected since", 0, house.fails(0, true));
        Check.due("22 none", 0, house.clear());
        told("22 goes back still", house, 2, BACK, 1, 1);
        house.fails(1, false);
        Check.due("22 of 1 and 2", 500, house.clear());
        house.fails(0, false);
        Check.due("22 the rest", 999 + 300, house.clear());
        told("22 the rest", house, 0, PAID, 0, 4);
        told("22 the rest", house, 1, PAID, 0, 3);
        told("22 the rest", house, 2, RETURNED, 1, 4);
        cash("22 the rest", house, 0, 999, 800, 0, 0);
    }

    private static void promise23() {
        Proratehouse house = market();
        bill(house, 0, 0, 1);
        for (int turn = 1; turn <= 3; turn++) {
            Check.due("23 clear", 999, house.clear());
            cash("23 paid", house, 0, 999);
            Check.due("23 how often", turn, house.reject(0));
            told("23", house, 0, BACK, turn, 2 * turn - 1);
            cash("23 no money yet", house, 0, 999);
            Check.due("23 goes back", turn < 3 ? 999 : 499, house.clear());
            told("23", house, 0, turn < 3 ? RETURNED : CLOSED, turn, 2 * turn);
            cash("23 went back", house, turn < 3 ? 999 : 499, turn < 3 ? 0 : 500);
            if (turn < 3) {
                house.rebill(0);
                told("23 again", house, 0, WAITS, turn, 2 * turn);
            }
        }
        Check.due("23 closed", 0, house.clear());
        told("23 closed", house, 0, CLOSED, 3, 6);
        Check.due("23 its amount stays", 999, house.ofBill(0, 1));
        house = cleared();
        house.clear();
        Check.due("23 by the one ahead of the latest", 1, house.reject(0));
        for (int none : new int[] {-1, 3, 240, Integer.MIN_VALUE, Integer.MAX_VALUE}) {
            Check.refuses(ClearingTests::cleared, Check.INDEX, "23 bill", h -> h.reject(none));
        }
        Check.refuses(Proratehouse::new, Check.INDEX, "23 no bill", h -> h.reject(0));
        Check.refuses(ClearingTests::round, Check.STATE, "23 WAITS", h -> h.reject(0));
        Check.refuses(ClearingTests::rejected, Check.STATE, "23 BACK", h -> h.reject(0));
        Check.refuses(ClearingTests::returned, Check.STATE, "23 RETURNED", h -> h.reject(0));
        Check.refuses(ClearingTests::closed, Check.STATE, "23 CLOSED", h -> h.reject(0));
        Check.Maker old = () -> {
            Proratehouse made = cleared();
            made.clear();
            made.clear();
            return made;
        };
        Check.refuses(old, Check.STATE, "23 by an earlier one", h -> h.reject(0));
    }

    static Proratehouse rejected() {
        Proratehouse house = cleared();
        house.reject(0);
        return house;
    }

    static Proratehouse returned() {
        Proratehouse house = rejected();
        house.clear();
        return house;
    }

    /** The bill 0 is closed by the sixth clearing. */
    static Proratehouse closed() {
        Proratehouse house = returned();
        for (int turn = 0; turn < 2; turn++) {
            house.rebill(0);
            house.clear();
            house.reject(0);
            house.clear();
        }
        return house;
    }

    static void rebills(Check.Maker maker, Class<?> due, String what, int bill) {
        Check.refuses(maker, due, what, h -> {
            h.rebill(bill);
            return 0;
        });
    }

    private static void promise24() {
        Proratehouse house = returned();
        cash("24 returned", house, 1299, 0, 500, 0, 0);
        house.rebill(0);
        told("24", house, 0, WAITS, 1, 2);
        cash("24 no money yet", house, 1299, 0, 500, 0, 0);
        Check.due("24 is paid again", 999, house.clear());
        told("24", house, 0, PAID, 1, 3);
        for (int none : new int[] {-1, 3, 240, Integer.MIN_VALUE, Integer.MAX_VALUE}) {
            rebills(ClearingTests::returned, Check.INDEX, "24 bill", none);
        }
        rebills(ClearingTests::round, Check.STATE, "24 WAITS", 0);
        rebills(ClearingTests::cleared, Check.STATE, "24 PAID", 0);
        rebills(ClearingTests::rejected, Check.STATE, "24 BACK", 0);
        rebills(ClearingTests::closed, Check.STATE, "24 CLOSED", 0);
    }

    private static void promise25() {
        Proratehouse house = cleared();
        Check.due("25 out already", 0, house.fails(0, false));
        Check.due("25 owes one, is owed one", 2, house.fails(0, true));
        told("25 owed by it", house, 0, WAITS, 0, 0);
        told("25 of others", house, 1, PAID, 0, 1);
        told("25 owed to it", house, 2, WAITS, 0, 0);
        cash("25", house, 999, 0, 800, 0, 0);
        Check.due("25 in default", 1, house.of(5));
        Check.due("25 in already", 0, house.fails(0, true));
        Check.due("25 the other of one that was undone", 1, house.fails(1, true));
        Check.due("25 both", 3, house.of(5));
        cash("25 all undone", house, 999, 500, 300, 0, 0);
        Check.due("25 out", 0, house.fails(0, false));
        Check.due("25 one is left", 2, house.of(5));
        Check.due("25 that of 2 and 0", 300, house.clear());
        Check.due("25 again", 1, house.fails(0, true));
        house = cleared();
        house.clear();
        Check.due("25 not by the latest", 0, house.fails(0, true));
        told("25 not by the latest", house, 0, PAID, 0, 1);
        Check.due("25 the last carrier", 0, house.fails(4, true));
        Check.due("25 bits", 17, house.of(5));
        stateOfTheUndone();
        for (int none : Check.NO_CARRIERS) {
            Check.refuses(ClearingTests::cleared, Check.INDEX, "25 carrier", h -> h.fails(none, true));
            Check.refuses(ClearingTests::cleared, Check.INDEX, "25 carrier", h -> h.fails(none, false));
        }
    }

    private static void stateOfTheUndone() {
        Proratehouse house = rejected();
        Check.due("25 one was rejected since", 1, house.fails(1, true));
        told("25 rejected since", house, 0, BACK, 1, 1);
        told("25 not rejected", house, 1, WAITS, 0, 0);
        house = returned();
        Check.due("25 one that was RETURNED", 1, house.fails(1, true));
        told("25 RETURNED", house, 0, BACK, 1, 0);
        told("25 by the one ahead", house, 1, PAID, 0, 1);
        cash("25 RETURNED", house, 300, 999, 500, 0, 0);
        house.fails(1, false);
        Check.due("25 returned again", 999, house.clear());
        told("25 returned again", house, 0, RETURNED, 1, 3);
        house.rebill(0);
        Check.due("25 one was billed again since", 0, house.fails(0, true));
        told("25 billed again", house, 0, WAITS, 1, 3);
        house = closed();
        cash("25 CLOSED", house, 799, 500, 500, 0, 0);
        Check.due("25 one that was CLOSED", 1, house.fails(0, true));
        told("25 CLOSED", house, 0, BACK, 3, 0);
        cash("25 half of it is undone", house, 300, 999, 500, 0, 0);
        house.fails(0, false);
        Check.due("25 half of it again", 499, house.clear());
        told("25 closed again", house, 0, CLOSED, 3, 7);
        house = new Proratehouse();
        Check.due("25 no bill, no clearing", 0, house.fails(2, true));
        house = round();
        Check.due("25 no clearing", 0, house.fails(0, true));
        told("25 no clearing", house, 0, WAITS, 0, 0);
    }

    private static void promise28() {
        Proratehouse house = returned();
        int[][] due = {{RETURNED, 999, 0, 1, 1, 2}, {PAID, 500, 1, 2, 0, 1}, {PAID, 300, 2, 0, 0, 1}};
        for (int bill = 0; bill < due.length; bill++) {
            for (int what = 0; what < 6; what++) {
                Check.due("28 of " + bill, due[bill][what], house.ofBill(bill, what));
            }
        }
        for (int none : new int[] {-1, 3, 240, Integer.MIN_VALUE, Integer.MAX_VALUE}) {
            Check.refuses(ClearingTests::returned, Check.INDEX, "28 bill", h -> h.ofBill(none, 6));
        }
        for (int what : new int[] {-1, 6, Integer.MIN_VALUE, Integer.MAX_VALUE}) {
            Check.refuses(ClearingTests::returned, Check.ARGUMENT, "28 what", h -> h.ofBill(0, what));
        }
    }

    public static void main(String[] args) {
        promise22();
        promise23();
        promise24();
        promise25();
        promise28();
        Check.end("promises 22 to 25 and 28");
    }
}
