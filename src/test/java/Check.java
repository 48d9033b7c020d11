import java.util.ArrayList;
import java.util.List;

/** What the tests by hand share: due answers, and calls that are to throw and change nothing. */
final class Check {
    static final Class<?> INDEX = IndexOutOfBoundsException.class;
    static final Class<?> ARGUMENT = IllegalArgumentException.class;
    static final Class<?> STATE = IllegalStateException.class;
    static final int[] NO_PLACES = {-1, 10, Integer.MIN_VALUE, Integer.MAX_VALUE};
    static final int[] NO_CARRIERS = {-1, 5, Integer.MIN_VALUE, Integer.MAX_VALUE};

    private static int wrong;
    private static int looked;

    interface Call {
        long on(Proratehouse house);
    }

    /** A call with one of its arguments left open. */
    interface Numbered {
        long on(Proratehouse house, int number);
    }

    interface Maker {
        Proratehouse make();
    }

    private Check() { }

    static void due(String what, long want, long got) {
        looked++;
        if (got != want) {
            wrong++;
            System.out.println(what + ": answered " + got + ", due is " + want);
        }
    }

    private static String thrownBy(Proratehouse house, Call call) {
        try {
            return String.valueOf(call.on(house));
        } catch (RuntimeException thrown) {
            return thrown.getClass().getName();
        }
    }

    /** The call throws the exception on a new house, and leaves it as one without the call is. */
    static void refuses(Maker maker, Class<?> want, String what, Call call) {
        looked++;
        Proratehouse tried = maker.make();
        String got = thrownBy(tried, call);
        if (!got.equals(want.getName())) {
            wrong++;
            System.out.println(what + ": gave " + got + ", due is " + want.getName());
            return;
        }
        List<String> now = picture(tried);
        List<String> before = picture(maker.make());
        if (!now.equals(before)) {
            wrong++;
            System.out.println(what + ": changed the house from " + before + " to " + now);
        }
    }

    /** The call gives the answer on a new house; an exception is a wrong answer like another one. */
    static void answers(Maker maker, long want, String what, Call call) {
        looked++;
        String got = thrownBy(maker.make(), call);
        if (!got.equals(String.valueOf(want))) {
            wrong++;
            System.out.println(what + ": gave " + got + ", due is " + want);
        }
    }

    /** The call is let in on a new house, whatever it answers. */
    static void lets(Maker maker, String what, Call call) {
        looked++;
        String got = thrownBy(maker.make(), call);
        if (got.endsWith("Exception")) {
            wrong++;
            System.out.println(what + ": gave " + got + ", due is an answer");
        }
    }

    /** The least and the greatest number are let in; those next to them and far off are refused. */
    static void bounds(Maker maker, Class<?> refusal, String what, int least, int most, Numbered call) {
        for (int number : new int[] {least, most}) {
            lets(maker, what + " of " + number, house -> call.on(house, number));
        }
        for (int number : new int[] {least - 1, most + 1, Integer.MIN_VALUE, Integer.MAX_VALUE}) {
            refuses(maker, refusal, what + " of " + number, house -> call.on(house, number));
        }
    }

    /** All that can be asked of a house, and then all that setting things anew tells of it. */
    static List<String> picture(Proratehouse house) {
        List<String> seen = new ArrayList<>();
        for (int what = 0; what < 6; what++) {
            seen.add("of " + what + " " + house.of(what));
        }
        seen.add("journey " + house.price() + " " + house.priceAnew() + " " + house.cuts());
        for (int from = 0; from < house.of(1); from++) {
            for (int to = from + 1; to <= house.of(1); to++) {
                seen.add("part " + from + " " + to + " " + house.part(from, to));
            }
        }
        seeTickets(house, seen);
        seeBills(house, seen);
        seeMoney(house, seen);
        seen.add("issue " + thrownBy(house, each -> each.issue(4)));
        seeTickets(house, seen);
        seeSettings(house, seen);
        seen.add("clear " + house.clear());
        seeBills(house, seen);
        return seen;
    }

    private static void seeTickets(Proratehouse house, List<String> seen) {
        for (int ticket = Math.max(0, house.of(2) - 2); ticket < house.of(2); ticket++) {
            for (int what = 0; what < 6; what++) {
                seen.add("ticket " + house.ofTicket(ticket, what));
            }
            for (int coupon = 0; coupon < house.ofTicket(ticket, 3); coupon++) {
                for (int what = 0; what < 6; what++) {
                    seen.add("coupon " + house.ofCoupon(ticket, coupon, what));
                }
            }
        }
    }

    private static void seeBills(Proratehouse house, List<String> seen) {
        for (int bill = 0; bill < house.of(3); bill++) {
            for (int what = 0; what < 6; what++) {
                seen.add("bill " + house.ofBill(bill, what));
            }
        }
    }

    private static void seeMoney(Proratehouse house, List<String> seen) {
        for (int carrier = 0; carrier < 5; carrier++) {
            seen.add("cash " + house.cash(carrier) + " " + house.cashAnew(carrier));
        }
        for (int place = 0; place < 10; place++) {
            seen.add("state " + house.state(place));
        }
        seen.add("paid " + house.paid());
    }

    private static void seeSettings(Proratehouse house, List<String> seen) {
        seen.add("unit " + house.unit(1) + " penalty " + house.penalty(0));
        for (int one = 0; one < 10; one++) {
            for (int other = one + 1; other < 10; other++) {
                seen.add("pair " + house.miles(one, other, 1) + " " + house.weight(one, other, 0));
            }
        }
        for (int carrier = 0; carrier < 5; carrier++) {
            for (int place = 0; place < 3; place++) {
                seen.add("proviso " + house.proviso(carrier, place, place + 1, -1)
                        + " " + house.proviso(carrier, place + 1, place, -1));
            }
        }
        seen.add("fare " + thrownBy(house, each -> each.fare(0, 1, 1, 0, 0, 0)));
    }

    /** Ends the program; with exit code 1 if an answer was not the one that is due. */
    static void end(String program) {
        System.out.println(program + ": " + looked + " looked at, " + wrong + " wrong");
        if (wrong != 0 || looked == 0) {
            System.exit(1);
        }
    }
}
