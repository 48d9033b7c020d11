import java.lang.reflect.InvocationTargetException;
import java.lang.reflect.Method;
import java.util.ArrayList;
import java.util.Arrays;
import java.util.HashMap;
import java.util.List;
import java.util.Map;
import java.util.Random;
import java.util.TreeMap;
import java.util.TreeSet;

/**
 * Long random runs, each call compared with the Model. A call that throws leaves the Model as it
 * was, so a house that was changed by one is found by what it answers later. At the end it is
 * looked at whether the runs met every exception of every call, and the rarer turns of a bill.
 */
public final class ModelTests {
    private static final int RUNS = 900;
    private static final int CALLS = 512;
    private static final int[] ODD = {-1, 10, 5, -2, 40, 1000, Integer.MIN_VALUE, Integer.MAX_VALUE};
    private static final String[] MUST_BE_MET = {
        "miles.ok", "miles.Index", "miles.Argument", "fare.ok", "fare.Index", "fare.Argument",
        "fare.State", "withdraw.ok", "withdraw.Index", "withdraw.State", "unit.ok", "unit.Argument",
        "tax.ok", "tax.Index", "tax.Argument", "weight.ok", "weight.Index", "weight.Argument",
        "proviso.ok", "proviso.Index", "proviso.Argument", "penalty.ok", "penalty.Argument",
        "leg.ok", "leg.Index", "leg.Argument", "leg.State", "wipe.ok", "part.ok", "part.Index",
        "part.Argument", "price.ok", "priceAnew.ok", "cuts.ok", "issue.ok", "issue.Index",
        "issue.State", "fly.ok", "fly.Index", "fly.State", "endorse.ok", "endorse.Index",
        "endorse.State", "refund.ok", "refund.Index", "refund.State", "reissue.ok", "reissue.Index",
        "reissue.State", "pass.ok", "pass.Argument", "pass.State", "clear.ok", "reject.ok",
        "reject.Index", "reject.State", "rebill.ok", "rebill.Index", "rebill.State", "fails.ok",
        "fails.Index", "ofTicket.ok", "ofTicket.Index", "ofTicket.Argument", "ofCoupon.ok",
        "ofCoupon.Index", "ofCoupon.Argument", "ofBill.ok", "ofBill.Index", "ofBill.Argument",
        "cash.ok", "cash.Index", "cashAnew.ok", "cashAnew.Index", "state.ok", "state.Index",
        "paid.ok", "of.ok", "of.Argument",
        "part -1", "part -2", "part -3", "price by 3 cuts", "30 tickets", "40 fares", "8 legs",
        "nothing shared", "reissue below 0", "third rejection", "closed", "undone PAID",
        "undone RETURNED", "undone CLOSED", "bill of nothing", "day 999",
    };

    record Call(String name, Object... args) {
        @Override public String toString() {
            return name + Arrays.toString(args).replace('[', '(').replace(']', ')');
        }
    }

    private final Random random;
    private final Proratehouse house = new Proratehouse();
    private final Model model = new Model();
    private final int places;
    private final int dayStep;
    private final int oddity;
    private final int[] chances;
    private final Map<String, Integer> met;
    private final List<String> said = new ArrayList<>();

    private static final String[] NAMES = {
        "miles", "fare", "withdraw", "unit", "tax", "weight", "proviso", "penalty", "leg", "wipe",
        "part", "price", "priceAnew", "cuts", "issue", "fly", "endorse", "refund", "reissue", "pass",
        "clear", "reject", "rebill", "fails", "ofTicket", "ofCoupon", "ofBill", "cash", "cashAnew",
        "state", "paid", "of"};
    private static final int[] CHANCES = {
        4, 5, 1, 2, 3, 4, 4, 2, 40, 1,
        5, 4, 2, 4, 14, 16, 4, 3, 4, 8,
        8, 10, 6, 4, 6, 8, 8, 5, 5, 3, 3, 3};

    private static final Map<String, Method> OF_HOUSE = methods(Proratehouse.class);
    private static final Map<String, Method> OF_MODEL = methods(Model.class);

    private static Map<String, Method> methods(Class<?> holder) {
        Map<String, Method> found = new HashMap<>();
        for (Method method : holder.getDeclaredMethods()) {
            if (java.lang.reflect.Modifier.isPublic(method.getModifiers())) {
                method.setAccessible(true);
                found.put(method.getName(), method);
            }
        }
        return found;
    }

    private ModelTests(long seed, Map<String, Integer> met) {
        this.met = met;
        random = new Random(seed);
        places = 3 + random.nextInt(random.nextInt(4) == 0 ? 8 : 3);
        dayStep = random.nextInt(6) == 0 ? 100 : 1 + random.nextInt(3);
        oddity = random.nextInt(3) == 0 ? 3 : 40;
        chances = CHANCES.clone();
        for (int k = 0; k < chances.length; k++) {
            int turn = random.nextInt(6);
            chances[k] = turn == 0 ? chances[k] * 4 : turn == 1 ? (chances[k] + 2) / 3 : chances[k];
        }
    }

    // ---- what is called

    private boolean seldom() {
        return random.nextInt(oddity) == 0 && random.nextInt(3) == 0;
    }

    private int odd() {
        return ODD[random.nextInt(ODD.length)];
    }

    private int place() {
        return seldom() ? odd() : random.nextInt(places);
    }

    private int carrier() {
        return seldom() ? odd() : random.nextInt(random.nextBoolean() ? 2 : 5);
    }

    private int from(int least, int most) {
        int turn = random.nextInt(oddity);
        if (turn == 0) {
            int[] edges = {least, most, least - 1, most + 1, odd()};
            return edges[random.nextInt(edges.length)];
        }
        return least + random.nextInt(most - least + 1);
    }

    private int miles() {
        return random.nextInt(4) == 0 ? from(1, 9999) : 400 + random.nextInt(300);
    }

    private int day() {
        if (seldom()) {
            return odd();
        }
        int least = model.today;
        if (!model.legs.isEmpty() && random.nextInt(20) != 0) {
            least = model.legs.get(model.legs.size() - 1).day();
        }
        return least + (random.nextInt(3) == 0 ? random.nextInt(dayStep + 1) : 0);
    }

    private Call leg() {
        int from = place();
        if (!model.legs.isEmpty() && random.nextInt(15) != 0) {
            from = model.legs.get(model.legs.size() - 1).to();
        }
        int to = place();
        for (int k = 0; k < 6 && (to == from || !hasFare(from, to)); k++) {
            to = place();
        }
        return new Call("leg", from, to, carrier(), day());
    }

    private boolean hasFare(int from, int to) {
        return model.fares.stream().anyMatch(fare -> fare.from() == from && fare.to() == to
                && fare.first() <= model.today && fare.last() >= model.today);
    }

    private int ticket() {
        return seldom() || model.tickets.isEmpty() ? from(-1, 2) : late(model.tickets.size());
    }

    private int openTicket() {
        for (int k = 0; k < 8 && !model.tickets.isEmpty(); k++) {
            int number = late(model.tickets.size());
            if (model.tickets.get(number).coupons.stream().anyMatch(c -> c.status.equals("OPEN"))) {
                return number;
            }
        }
        return ticket();
    }

    private int late(int size) {
        return Math.max(random.nextInt(size), random.nextInt(size));
    }

    private int coupon(int ticket) {
        boolean isThere = ticket >= 0 && ticket < model.tickets.size();
        return seldom() || !isThere ? from(-1, 8)
                : random.nextInt(model.tickets.get(ticket).coupons.size());
    }

    private int bill(String status) {
        for (int k = 0; k < 12 && !model.bills.isEmpty(); k++) {
            int number = random.nextInt(model.bills.size());
            if (model.bills.get(number).status.equals(status)) {
                return number;
            }
        }
        return seldom() || model.bills.isEmpty() ? from(-1, 2) : late(model.bills.size());
    }

    private Call next() {
        int all = Arrays.stream(chances).sum();
        int dice = random.nextInt(all);
        int k = 0;
        while (dice >= chances[k]) {
            dice -= chances[k];
            k++;
        }
        return callOf(random.nextInt(8) == 0 ? NAMES[k] : fitting(NAMES[k]));
    }

    /** Puts ahead of a call that could only be refused one that leads to it. */
    private String fitting(String name) {
        switch (name) {
            case "rebill": return hasBill("RETURNED") ? name : fitting("reject");
            case "reject": return hasBill("PAID") ? name : hasBill("BACK") ? "clear" : fitting("clear");
            case "clear": case "ofBill": case "fails":
                return model.bills.isEmpty() ? fitting("fly") : name;
            case "fly": case "endorse": case "refund":
                return !hasOpen(Integer.MAX_VALUE) ? fitting("issue")
                        : name.equals("fly") && !hasOpen(model.today) ? "pass" : name;
            case "ofTicket": case "ofCoupon": return model.tickets.isEmpty() ? fitting("issue") : name;
            case "reissue": return hasOpen(Integer.MAX_VALUE) && canIssue() ? name : fitting("issue");
            case "issue": return canIssue() ? name : fitting("leg");
            case "leg": return isStuck() ? "wipe" : name;
            case "pass": return hasOpen(model.today) && random.nextBoolean() ? "fly" : name;
            default: return name;
        }
    }

    private boolean hasBill(String status) {
        return model.bills.stream().anyMatch(bill -> bill.status.equals(status));
    }

    private boolean hasOpen(int day) {
        return model.tickets.stream().flatMap(ticket -> ticket.coupons.stream())
                .anyMatch(coupon -> coupon.status.equals("OPEN") && coupon.leg.day() <= day);
    }

    private boolean canIssue() {
        return model.cuts() != Model.NONE && model.legs.get(0).day() >= model.today;
    }

    private boolean isStuck() {
        int legs = model.legs.size();
        return legs > 0 && (model.legs.get(0).day() < model.today || legs == 8
                || model.cuts() == Model.NONE && random.nextInt(3) == 0);
    }

    private Call callOf(String name) {
        switch (name) {
            case "miles": return new Call(name, place(), place(), miles());
            case "fare": return fare();
            case "withdraw": return new Call(name, from(0, Math.max(0, model.fares.size() - 1)));
            case "unit": return new Call(name, random.nextBoolean() ? from(1, 20) : from(1, 1000));
            case "tax": return new Call(name, place(), from(0, 10000), from(0, 10000));
            case "weight": return new Call(name, place(), place(), from(0, random.nextBoolean() ? 9 : 9999));
            case "proviso": return new Call(name, carrier(), place(), place(),
                    random.nextInt(3) == 0 ? from(-1, 1000000) : from(-1, 900));
            case "penalty": return new Call(name, from(0, 100));
            case "leg": return leg();
            case "part": return part();
            case "issue": return new Call(name, carrier());
            case "fly": case "endorse": return ofOpenCoupon(name);
            case "refund": case "reissue": return new Call(name, openTicket());
            case "pass": return new Call(name, seldom() ? from(0, 101) : 1 + random.nextInt(dayStep));
            case "reject": return new Call(name, bill("PAID"));
            case "rebill": return new Call(name, bill("RETURNED"));
            case "fails": return new Call(name, carrier(), random.nextInt(3) == 0);
            case "ofTicket": return new Call(name, ticket(), from(0, 5));
            case "ofCoupon": return ofCoupon();
            case "ofBill": return new Call(name, bill("CLOSED"), from(0, 5));
            case "cash": case "cashAnew": return new Call(name, carrier());
            case "state": return new Call(name, place());
            case "of": return new Call(name, from(0, 5));
            default: return new Call(name);
        }
    }

    private Call ofOpenCoupon(String name) {
        int ticket = openTicket();
        int coupon = coupon(ticket);
        return name.equals("fly") ? new Call(name, ticket, coupon)
                : new Call(name, ticket, coupon, carrier());
    }

    private Call ofCoupon() {
        int ticket = ticket();
        return new Call("ofCoupon", ticket, coupon(ticket), from(0, 5));
    }

    private Call part() {
        int points = model.legs.size() + 1;
        int from = random.nextInt(points);
        int to = from + 1 + random.nextInt(points);
        return seldom() ? new Call("part", from(-1, 9), from(-1, 9))
                : new Call("part", from, Math.min(to, random.nextInt(20) == 0 ? to : points - 1));
    }

    private Call fare() {
        int cents = random.nextInt(3) == 0 ? from(1, 1000000) : 100 * (1 + random.nextInt(12));
        int first = random.nextInt(3) == 0 ? from(0, 999) : 0;
        int last = seldom() ? from(0, 999) : first + random.nextInt(Math.max(1, 1000 - first));
        return new Call("fare", place(), place(), cents, first, last, random.nextInt(3) == 0 ? 0 : from(0, 7));
    }

    // ---- what is answered

    private static String answer(Map<String, Method> methods, Object holder, Call call) {
        try {
            Object got = methods.get(call.name()).invoke(holder, call.args());
            return String.valueOf(got);
        } catch (InvocationTargetException thrown) {
            return thrown.getCause().getClass().getSimpleName();
        } catch (IllegalAccessException broken) {
            throw new AssertionError(broken);
        }
    }

    private boolean isSame(Call call) {
        List<String> before = statuses(call);
        String want = answer(OF_MODEL, model, call);
        String got = answer(OF_HOUSE, house, call);
        note(call, want, before);
        said.add(call + " -> " + got);
        if (got.equals(want)) {
            return true;
        }
        said.forEach(System.out::println);
        System.out.println("due is " + want);
        return false;
    }

    private List<String> statuses(Call call) {
        return call.name().equals("fails") || call.name().equals("clear")
                ? model.bills.stream().map(bill -> bill.status).toList() : List.of();
    }

    private void meet(String what) {
        met.merge(what, 1, Integer::sum);
    }

    private void note(Call call, String want, List<String> before) {
        String name = call.name();
        boolean isThrown = want.endsWith("Exception");
        meet(name + "." + (want.startsWith("Index") ? "Index" : want.startsWith("IllegalA") ? "Argument"
                : isThrown ? "State" : "ok"));
        if (isThrown) {
            return;
        }
        switch (name) {
            case "part": meet("part " + (want.startsWith("-") ? want : "with a price")); break;
            case "cuts": meet("price by " + Integer.bitCount(Integer.parseInt(want)) + " cuts"); break;
            case "leg": meet(want + " legs"); break;
            case "fare": meet(model.fares.size() + " fares"); break;
            case "issue": noteTicket(); break;
            case "reissue": noteTicket(); meet(want.startsWith("-") ? "reissue below 0" : "reissue"); break;
            case "pass": meet("day " + want); break;
            case "reject": meet(want.equals("3") ? "third rejection" : "rejection"); break;
            case "fly": meet(want.equals("-1") || model.bills.get(Integer.parseInt(want)).amount > 0
                    ? "flown" : "bill of nothing"); break;
            case "fails": case "clear": noteBills(before); break;
            default: break;
        }
    }

    private void noteTicket() {
        meet(model.tickets.size() + " tickets");
        meet(model.tickets.get(model.tickets.size() - 1).unshared > 0 ? "nothing shared" : "all shared");
    }

    private void noteBills(List<String> before) {
        for (int k = 0; k < before.size(); k++) {
            String now = model.bills.get(k).status;
            if (!now.equals(before.get(k))) {
                meet(now.equals("WAITS") || now.equals("BACK") ? "undone " + before.get(k)
                        : now.toLowerCase());
            }
        }
    }

    // ---- a run

    private boolean run() {
        int calls = 0;
        for (int one = 0; one < places; one++) {
            for (int other = 0; other < one; other++) {
                if (random.nextInt(12) != 0) {
                    calls++;
                    if (!isSame(new Call("miles", one, other, miles()))) {
                        return false;
                    }
                }
            }
        }
        for (int k = random.nextInt(35); k >= 0; k--) {
            calls++;
            if (!isSame(fare())) {
                return false;
            }
        }
        while (calls < CALLS - 40) {
            calls++;
            if (!isSame(next())) {
                return false;
            }
        }
        return endsAlike();
    }

    /** The last forty calls ask for the whole sums, and whether no cent was lost. */
    private boolean endsAlike() {
        long sum = 0;
        for (int carrier = 0; carrier < 5; carrier++) {
            if (!isSame(new Call("cash", carrier)) || !isSame(new Call("cashAnew", carrier))) {
                return false;
            }
            sum += house.cash(carrier);
        }
        for (int place = 0; place < 10; place++) {
            if (!isSame(new Call("state", place))) {
                return false;
            }
            sum += house.state(place);
        }
        if (sum != house.paid()) {
            System.out.println("cents were lost: " + sum + " of " + house.paid());
            return false;
        }
        return isSame(new Call("paid"));
    }

    public static void main(String[] args) {
        long first = args.length > 0 ? Long.parseLong(args[0]) : 1;
        int runs = args.length > 1 ? Integer.parseInt(args[1]) : RUNS;
        Map<String, Integer> met = new TreeMap<>();
        for (long seed = first; seed < first + runs; seed++) {
            if (!new ModelTests(seed, met).run()) {
                System.out.println("the run of seed " + seed + " went wrong");
                System.exit(1);
            }
        }
        TreeSet<String> missing = new TreeSet<>(List.of(MUST_BE_MET));
        missing.removeAll(met.keySet());
        if (args.length > 0) {
            System.out.println(met);
        } else if (!missing.isEmpty()) {
            System.out.println("no run met " + missing);
            System.exit(1);
        }
        System.out.println(runs + " runs of " + CALLS + " calls are as the model has them");
    }
}
