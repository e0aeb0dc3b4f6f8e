import java.math.BigInteger;
import java.util.ArrayList;
import java.util.HashMap;
import java.util.List;
import java.util.Map;

/**
 * Long runs of calls, some of them wrong ones, each answer compared with that of a slow model which
 * keeps what happened and works out every answer anew from the document's words.
 */
public final class LookbackPlanAgainstModel {
    private static final int RUNS = 1500;
    private static final int CALLS_OF_RUN = 512;

    /** Numbers that are the same each time the test runs. */
    private static final class Numbers {
        private long state;

        Numbers(long seed) {
            state = seed * 0x9E3779B97F4A7C15L + 1;
        }

        int below(int bound) {
            state = state * 6364136223846793005L + 1442695040888963407L;
            return (int) Math.floorMod(state >>> 33, (long) bound);
        }

        int from(int low, int high) {
            return low + below(high - low + 1);
        }

        int oneOf(int... choices) {
            return choices[below(choices.length)];
        }
    }

    private static final class Refusal extends RuntimeException {
        private static final long serialVersionUID = 1L;

        Refusal(String exception) {
            super(exception);
        }
    }

    // ---- the model

    private record Offer(int month, int price) {}

    private record Purchase(int month, int count, int each, Offer offer) {}

    private record Sale(int month, int count) {}

    private static final class Person {
        int rate;
        boolean gone;
        final List<Integer> parts = new ArrayList<>();
        BigInteger givenBack = BigInteger.ZERO;
        final List<Offer> offers = new ArrayList<>();
        final List<Integer> purchasesByOffer = new ArrayList<>();
        final List<Purchase> purchases = new ArrayList<>();
        final List<Sale> sales = new ArrayList<>();
        int falls;
    }

    private static final class Model {
        final List<Integer> prices = new ArrayList<>();
        final List<Person> people = new ArrayList<>();
        int ceiling = 25000 * 100;

        long call(String name, int a, int b) {
            switch (name) {
                case "next": return next(a);
                case "month": return prices.size() - 1;
                case "ceiling": return ceiling(a);
                case "join": return join(a);
                case "rate": return rate(person(a), b);
                case "slip": return slip(person(a), b);
                case "leave": return leave(person(a));
                case "money": return money(person(a));
                case "offerMonth": return offer(person(a)).month();
                case "offerPrice": return offer(person(a)).price();
                case "resets": return person(a).falls;
                case "shares": return left(person(a));
                case "bought": return lot(person(a), b, 0, true);
                case "paidEach": return lot(person(a), b, -1, false);
                case "counted": return countedOrRefuse(person(a), b);
                case "traced": return traced(person(a)).longValueExact();
                case "kept": return kept(person(a));
                case "sell": return sell(person(a), b);
                case "pay": return parted(person(a), person(a).sales)[0];
                case "gain": return parted(person(a), person(a).sales)[1];
                case "gainNow": return gainNow(person(a));
                default: throw new AssertionError(name);
            }
        }

        int now() {
            return prices.size() - 1;
        }

        Person person(int number) {
            if (number < 0 || number >= people.size()) {
                throw new Refusal("IndexOutOfBoundsException");
            }
            return people.get(number);
        }

        static void argument(int value, int low, int high) {
            if (value < low || value > high) {
                throw new Refusal("IllegalArgumentException");
            }
        }

        static void state(boolean good) {
            if (!good) {
                throw new Refusal("IllegalStateException");
            }
        }

        long next(int price) {
            argument(price, 1, 100000);
            state(prices.size() < 60);
            if (List.of(5, 11, 17, 23, 29, 35, 41, 47, 53).contains(now())) {
                for (Person person : people) {
                    if (!person.gone) {
                        buy(person);
                    }
                }
            }
            prices.add(price);
            return now();
        }

        void buy(Person person) {
            Offer offer = offer(person);
            int price = prices.get(now());
            long lower = price < offer.price() ? price : offer.price();
            int each = 0;
            while (each * 100L < lower * 85L) {
                each++;
            }
            long counted = counted(person, now() / 12);
            long money = money(person);
            int count = 0;
            while (money >= each && counted + offer.price() <= ceiling) {
                money -= each;
                counted += offer.price();
                count++;
            }
            if (count > 0) {
                person.purchases.add(new Purchase(now(), count, each, offer));
            }
            int last = person.offers.size() - 1;
            int times = person.purchasesByOffer.get(last) + 1;
            person.purchasesByOffer.set(last, times);
            boolean fallen = price < offer.price();
            person.falls += fallen ? 1 : 0;
            if (fallen || times == 4) {
                person.offers.add(new Offer(now(), price));
                person.purchasesByOffer.add(0);
            }
        }

        long ceiling(int cents) {
            argument(cents, 0, 10000000);
            int before = ceiling;
            ceiling = cents;
            return before;
        }

        long join(int rate) {
            argument(rate, 1, 15);
            state(!prices.isEmpty());
            state(people.size() < 6);
            Person person = new Person();
            person.rate = rate;
            person.offers.add(new Offer(now(), prices.get(now())));
            person.purchasesByOffer.add(0);
            people.add(person);
            return people.size() - 1;
        }

        long rate(Person person, int rate) {
            argument(rate, 1, 15);
            state(!person.gone);
            int before = person.rate;
            person.rate = rate;
            return before;
        }

        long slip(Person person, int gross) {
            argument(gross, 0, 5000000);
            state(!person.gone);
            int part = BigInteger.valueOf(gross).multiply(BigInteger.valueOf(person.rate))
                    .divide(BigInteger.valueOf(100)).intValueExact();
            person.parts.add(part);
            return part;
        }

        long leave(Person person) {
            state(!person.gone);
            long money = money(person);
            person.gone = true;
            person.givenBack = BigInteger.valueOf(money);
            return money;
        }

        Offer offer(Person person) {
            return person.offers.get(person.offers.size() - 1);
        }

        long kept(Person person) {
            long sum = 0;
            for (int part : person.parts) {
                sum += part;
            }
            return sum;
        }

        BigInteger spent(Person person) {
            BigInteger sum = BigInteger.ZERO;
            for (Purchase lot : person.purchases) {
                sum = sum.add(BigInteger.valueOf(lot.count()).multiply(BigInteger.valueOf(lot.each())));
            }
            return sum;
        }

        long money(Person person) {
            return person.gone ? 0
                    : BigInteger.valueOf(kept(person)).subtract(spent(person)).longValueExact();
        }

        BigInteger traced(Person person) {
            return spent(person).add(BigInteger.valueOf(money(person))).add(person.givenBack);
        }

        long left(Person person) {
            long sum = 0;
            for (Purchase lot : person.purchases) {
                sum += lot.count();
            }
            for (Sale sale : person.sales) {
                sum -= sale.count();
            }
            return sum;
        }

        long lot(Person person, int month, long none, boolean count) {
            if (month < 0 || month > 59) {
                throw new Refusal("IndexOutOfBoundsException");
            }
            for (Purchase lot : person.purchases) {
                if (lot.month() == month) {
                    return count ? lot.count() : lot.each();
                }
            }
            return none;
        }

        long counted(Person person, int year) {
            long sum = 0;
            for (Purchase lot : person.purchases) {
                if (lot.month() >= 12 * year && lot.month() < 12 * year + 12) {
                    sum += (long) lot.count() * lot.offer().price();
                }
            }
            return sum;
        }

        long countedOrRefuse(Person person, int year) {
            if (year < 0 || year > 4) {
                throw new Refusal("IndexOutOfBoundsException");
            }
            return counted(person, year);
        }

        long sell(Person person, int count) {
            argument(count, 1, 1000000);
            state(left(person) >= count);
            long early = parted(person, person.sales)[2];
            person.sales.add(new Sale(now(), count));
            return parted(person, person.sales)[2] - early;
        }

        long gainNow(Person person) {
            List<Sale> all = new ArrayList<>(person.sales);
            all.add(new Sale(now(), (int) left(person)));
            return parted(person, all)[1] - parted(person, person.sales)[1];
        }

        /** The pay, the gain and the early shares of these sales, all of them told over again. */
        long[] parted(Person person, List<Sale> sales) {
            long[] sums = new long[3];
            int at = 0;
            long used = 0;
            for (Sale sale : sales) {
                long open = sale.count();
                while (open > 0) {
                    Purchase lot = person.purchases.get(at);
                    if (used == lot.count()) {
                        at++;
                        used = 0;
                        continue;
                    }
                    long part = Math.min(open, lot.count() - used);
                    addParted(sums, lot, sale.month(), part);
                    used += part;
                    open -= part;
                }
            }
            return sums;
        }

        void addParted(long[] sums, Purchase lot, int month, long count) {
            long brings = prices.get(month) - lot.each();
            boolean late = month >= lot.offer().month() + 24 && month >= lot.month() + 12;
            long pay;
            if (late) {
                pay = 15L * lot.offer().price() / 100;
                if (pay > brings) {
                    pay = brings;
                }
                if (pay < 0) {
                    pay = 0;
                }
            } else {
                pay = prices.get(lot.month()) - lot.each();
            }
            sums[0] += count * pay;
            sums[1] += count * (brings - pay);
            sums[2] += late ? 0 : count;
        }
    }

    // ---- the class

    private static long call(LookbackPlan plan, String name, int a, int b) {
        switch (name) {
            case "next": return plan.next(a);
            case "month": return plan.month();
            case "ceiling": return plan.ceiling(a);
            case "join": return plan.join(a);
            case "rate": return plan.rate(a, b);
            case "slip": return plan.slip(a, b);
            case "leave": return plan.leave(a);
            case "money": return plan.money(a);
            case "offerMonth": return plan.offerMonth(a);
            case "offerPrice": return plan.offerPrice(a);
            case "resets": return plan.resets(a);
            case "shares": return plan.shares(a);
            case "bought": return plan.bought(a, b);
            case "paidEach": return plan.paidEach(a, b);
            case "counted": return plan.counted(a, b);
            case "traced": return plan.traced(a);
            case "kept": return plan.kept(a);
            case "sell": return plan.sell(a, b);
            case "pay": return plan.pay(a);
            case "gain": return plan.gain(a);
            case "gainNow": return plan.gainNow(a);
            default: throw new AssertionError(name);
        }
    }

    private static String answer(LookbackPlan plan, String name, int a, int b) {
        try {
            return Long.toString(call(plan, name, a, b));
        } catch (RuntimeException e) {
            return "throws." + e.getClass().getSimpleName();
        }
    }

    private static String answer(Model model, String name, int a, int b) {
        try {
            return Long.toString(model.call(name, a, b));
        } catch (Refusal e) {
            return "throws." + e.getMessage();
        }
    }

    // ---- the runs

    private static final String[] QUERIES = {
        "month", "money", "offerMonth", "offerPrice", "resets", "shares", "bought", "paidEach",
        "counted", "traced", "kept", "pay", "gain", "gainNow"
    };

    /** What the runs met, to see that they met what they are for. */
    private static final Map<String, Integer> MET = new HashMap<>();

    private static void met(String what) {
        MET.merge(what, 1, Integer::sum);
    }

    private static String nameOfCall(Numbers numbers, int monthsOfHundred) {
        int roll = numbers.below(100);
        if (roll < monthsOfHundred) {
            return "next";
        }
        roll = numbers.below(100);
        if (roll < 20) {
            return "slip";
        }
        if (roll < 32) {
            return "sell";
        }
        if (roll < 36) {
            return "join";
        }
        if (roll < 38) {
            return "rate";
        }
        if (roll < 40) {
            return "ceiling";
        }
        if (roll < 41) {
            return "leave";
        }
        return QUERIES[numbers.below(QUERIES.length)];
    }

    private static int price(Numbers numbers, int kind, int last) {
        switch (kind) {
            case 0: return numbers.from(1, 20);
            case 1: return numbers.from(80, 130);
            case 2: return numbers.from(90000, 100000);
            case 3: return Math.max(1, Math.min(100000, last + numbers.from(-last / 10, last / 8 + 1)));
            default: return numbers.from(1, 100000);
        }
    }

    private static int wrongNumber(Numbers numbers) {
        return numbers.oneOf(-1, 0, 1, 5, 6, 7, 15, 16, 59, 60, 100000, 100001, 1000000, 1000001,
                5000000, 5000001, 10000000, 10000001, Integer.MIN_VALUE, Integer.MAX_VALUE);
    }

    private static int second(Numbers numbers, Model model, String name, int member) {
        switch (name) {
            case "rate": return numbers.from(1, 15);
            case "slip": return numbers.oneOf(numbers.below(1000), numbers.below(100000), numbers.below(5000001));
            case "bought":
            case "paidEach": return numbers.below(3) == 0 ? numbers.below(60) : 6 * numbers.below(10) + 5;
            case "counted": return numbers.below(5);
            case "sell": {
                long held = member < model.people.size() ? model.left(model.people.get(member)) : 3;
                int most = (int) Math.max(1, Math.min(1000000, held));
                return numbers.below(4) == 0 ? most : numbers.from(1, Math.max(1, most / 2) + 1);
            }
            default: return 0;
        }
    }

    private static boolean run(int seed) {
        Numbers numbers = new Numbers(seed);
        LookbackPlan plan = new LookbackPlan();
        Model model = new Model();
        StringBuilder story = new StringBuilder();
        int kind = numbers.below(5);
        int monthsOfHundred = numbers.from(8, 25);
        int last = numbers.from(50, 50000);
        for (int i = 0; i < CALLS_OF_RUN; i++) {
            String name = nameOfCall(numbers, monthsOfHundred);
            int a = numbers.below(Math.min(6, model.people.size() + 1));
            int b = second(numbers, model, name, a);
            if (name.equals("next")) {
                a = price(numbers, kind, last);
                last = a;
            } else if (name.equals("join")) {
                a = numbers.from(1, 15);
            } else if (name.equals("ceiling")) {
                a = numbers.oneOf(0, 2500000, numbers.below(10000), numbers.below(1000000), numbers.below(10000001));
            }
            if (numbers.below(40) == 0) {
                a = wrongNumber(numbers);
            }
            if (numbers.below(40) == 0) {
                b = wrongNumber(numbers);
            }
            String want = answer(model, name, a, b);
            String got = answer(plan, name, a, b);
            story.append(name).append('(').append(a).append(", ").append(b).append(") = ").append(got).append('\n');
            if (!got.equals(want)) {
                System.out.println("run " + seed + ", due is " + want + " in the last row:\n" + story);
                return false;
            }
            note(name, want);
        }
        return true;
    }

    private static void note(String name, String answer) {
        if (answer.startsWith("throws.")) {
            met(name + " " + answer);
        } else if (name.equals("next") && answer.equals("59")) {
            met("the last month");
        } else if (name.equals("sell") && answer.equals("0")) {
            met("a late sale");
        } else if (name.equals("sell")) {
            met("an early sale");
        } else if (name.startsWith("gain") && answer.startsWith("-")) {
            met("a loss");
        }
    }

    public static void main(String[] args) {
        for (int seed = 1; seed <= RUNS; seed++) {
            if (!run(seed)) {
                System.exit(1);
            }
        }
        for (String what : List.of("the last month", "a late sale", "an early sale", "a loss",
                "next throws.IllegalStateException", "join throws.IllegalStateException",
                "sell throws.IllegalStateException", "slip throws.IllegalStateException",
                "slip throws.IllegalArgumentException", "bought throws.IndexOutOfBoundsException")) {
            if (MET.getOrDefault(what, 0) < 50) {
                System.out.println("the runs hardly met: " + what);
                System.exit(1);
            }
        }
        System.out.println(RUNS + " runs of " + CALLS_OF_RUN + " calls answered as the model does");
        if (args.length > 0) {
            System.out.println(MET);
        }
    }
}
