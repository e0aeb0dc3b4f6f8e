import java.lang.reflect.Constructor;
import java.lang.reflect.Field;
import java.lang.reflect.Method;
import java.lang.reflect.Modifier;
import java.util.TreeSet;

/** One test or more for each promise of the document: ordinary inputs, edges, wrong inputs. */
public final class LookbackPlanPromises extends PlanTest {
    public static void main(String[] args) {
        publicFace();
        promise01NewObject();
        promise02NextAnswersAndRefuses();
        promise02PurchasePriceIsRoundedUpFromTheLowerPrice();
        promise02BuysOnlyAtTheEndOfPurchaseMonths();
        promise02CeilingBindsByYearAndFirstPrice();
        promise02OfferIsRenewed();
        promise02ThoseWhoLeftBuyNothing();
        promise03Month();
        promise04Ceiling();
        promise05Join();
        promise06Rate();
        promise07Slip();
        promise08Leave();
        promise09Money();
        promise10OfferMonth();
        promise11OfferPrice();
        promise12Resets();
        promise13Shares();
        promise14Bought();
        promise15PaidEach();
        promise16Counted();
        promise17Traced();
        promise18Kept();
        promise19SellCountsEarlyOnes();
        promise19SellGoesFromTheOldestLotOn();
        promise19SellRefuses();
        promise20PayOfEarlyAndLate();
        promise21GainOfEarlyAndLate();
        promise22GainNow();
        noSuchMemberComesFirst();
        largestSums();
        finish();
    }

    // ---- the face

    private static void publicFace() {
        TreeSet<String> found = new TreeSet<>();
        for (Method method : LookbackPlan.class.getDeclaredMethods()) {
            if (Modifier.isPublic(method.getModifiers())) {
                StringBuilder text = new StringBuilder();
                text.append(method.getReturnType()).append(' ').append(method.getName());
                for (Class<?> type : method.getParameterTypes()) {
                    text.append(' ').append(type);
                }
                for (Class<?> type : method.getExceptionTypes()) {
                    text.append(' ').append(type.getSimpleName().replaceAll("[a-z]", ""));
                }
                found.add(text.toString());
            }
        }
        TreeSet<String> wanted = new TreeSet<>(java.util.List.of(
                "int next int IAE ISE", "int month", "int ceiling int IAE", "int join int IAE ISE",
                "int rate int int IOOBE IAE ISE", "int slip int int IOOBE IAE ISE",
                "int leave int IOOBE ISE", "int money int IOOBE", "int offerMonth int IOOBE",
                "int offerPrice int IOOBE", "int resets int IOOBE", "int shares int IOOBE",
                "int bought int int IOOBE", "int paidEach int int IOOBE",
                "long counted int int IOOBE", "long traced int IOOBE", "long kept int IOOBE",
                "int sell int int IOOBE IAE ISE", "long pay int IOOBE", "long gain int IOOBE",
                "long gainNow int IOOBE"));
        dueText("public methods", found.toString(), wanted.toString());

        TreeSet<String> fields = new TreeSet<>();
        for (Field field : LookbackPlan.class.getDeclaredFields()) {
            if (!Modifier.isPrivate(field.getModifiers())) {
                fields.add(field.toString());
            }
        }
        dueText("fields not private", fields.toString(),
                "[public static final int LookbackPlan.NONE]");

        Constructor<?>[] constructors = LookbackPlan.class.getDeclaredConstructors();
        due("constructors", constructors.length, 1);
        due("constructor's parameters", constructors[0].getParameterCount(), 0);
        due("class is final", Modifier.isFinal(LookbackPlan.class.getModifiers()) ? 1 : 0, 1);
    }

    // ---- months

    private static void promise01NewObject() {
        LookbackPlan plan = new LookbackPlan();
        due("NONE", LookbackPlan.NONE, -1);
        due("no month", plan.month(), LookbackPlan.NONE);
        throwsDue("no members", BAD_INDEX, () -> plan.money(0));
        due("the ceiling at first", plan.ceiling(2500000), 2500000);
    }

    private static void promise02NextAnswersAndRefuses() {
        LookbackPlan plan = new LookbackPlan();
        for (int price : new int[] {0, -1, 100001, Integer.MIN_VALUE, Integer.MAX_VALUE}) {
            throwsDue("next of a new plan, price " + price, BAD_ARGUMENT, () -> plan.next(price));
        }
        due("month after refusals", plan.month(), LookbackPlan.NONE);
        due("the lowest price", plan.next(1), 0);
        due("the highest price", plan.next(100000), 1);
        for (int month = 2; month < 60; month++) {
            due("next", plan.next(1000), month);
        }
        throwsDue("next in month 59", BAD_STATE, () -> plan.next(1000));
        throwsDue("a bad price in month 59", BAD_ARGUMENT, () -> plan.next(0));
        throwsDue("a bad price in month 59", BAD_ARGUMENT, () -> plan.next(100001));
        due("month after refusals", plan.month(), 59);
    }

    private static void promise02PurchasePriceIsRoundedUpFromTheLowerPrice() {
        due("85 hundredths of 1", priceAfter(1, 1), 1);
        due("85 hundredths of 10", priceAfter(10, 10), 9);
        due("85 hundredths of 20", priceAfter(20, 20), 17);
        due("85 hundredths of 100", priceAfter(100, 100), 85);
        due("85 hundredths of 101", priceAfter(101, 101), 86);
        due("85 hundredths of 119", priceAfter(119, 119), 102);
        due("85 hundredths of 100000", priceAfter(100000, 100000), 85000);
        due("first price is lower", priceAfter(1000, 1001), 850);
        due("purchase month is lower", priceAfter(1000, 800), 680);
    }

    private static void promise02BuysOnlyAtTheEndOfPurchaseMonths() {
        LookbackPlan plan = started(10, 1000);
        plan.slip(0, 85000);
        for (int month = 1; month <= 5; month++) {
            plan.next(1000);
            due("money ahead of the purchase", plan.money(0), 8500);
            due("shares ahead of the purchase", plan.shares(0), 0);
        }
        due("a slip in the purchase month", plan.slip(0, 16990), 1699);
        throwsDue("a refused next", BAD_ARGUMENT, () -> plan.next(0));
        due("a refused next buys nothing", plan.shares(0), 0);
        plan.next(1);
        due("bought at the price of month 5, not of 6", plan.paidEach(0, 5), 850);
        due("as many as can be paid", plan.bought(0, 5), 11);
        due("what is not spent stays", plan.money(0), 10199 - 11 * 850);
        due("the offer stays", plan.offerPrice(0), 1000);

        for (int month = 7; month <= 11; month++) {
            plan.next(1000);
        }
        due("one lot so far", plan.shares(0), 11);
        due("one cent fewer than a share", plan.money(0), 849);
        plan.slip(0, 10);
        plan.next(1000);
        due("the money stayed for the next purchase", plan.bought(0, 11), 1);
        due("all is spent", plan.money(0), 0);

        LookbackPlan cent = started(1, 1);
        cent.slip(0, 100);
        begin(cent, 6, 1);
        due("one share for the only cent", cent.bought(0, 5), 1);
        due("the only cent is spent", cent.money(0), 0);

        LookbackPlan late = new LookbackPlan();
        begin(late, 6, 500);
        late.join(10);
        late.slip(0, 10000);
        late.next(500);
        due("one who joined in the purchase month buys at its end", late.bought(0, 5), 2);

        LookbackPlan last = new LookbackPlan();
        begin(last, 60, 100);
        last.join(15);
        last.slip(0, 100000);
        throwsDue("month 59 has no end", BAD_STATE, () -> last.next(100));
        due("nothing bought in month 59", last.shares(0), 0);
        due("money in month 59", last.money(0), 15000);
    }

    private static void promise02CeilingBindsByYearAndFirstPrice() {
        LookbackPlan exact = bought(10, 1000, 5000, 1000);
        due("shares that reach the ceiling exactly", exact.bought(0, 5), 5);
        due("one cent less", bought(10, 1000, 4999, 1000).bought(0, 5), 4);
        due("the first price counts, not the price paid", bought(10, 1000, 5000, 500).bought(0, 5), 5);
        due("a ceiling below one share", bought(10, 1000, 999, 1000).bought(0, 5), 0);
        due("a ceiling of 0", bought(10, 1000, 0, 1000).bought(0, 5), 0);

        due("the rest stays as money", exact.money(0), 500000 - 5 * 850);
        begin(exact, 6, 1000);
        due("the year is full", exact.bought(0, 11), 0);
        due("the year is full", exact.counted(0, 0), 5000);
        begin(exact, 6, 1000);
        due("the next year begins at 0", exact.bought(0, 17), 5);
        due("counted in the next year", exact.counted(0, 1), 5000);
        exact.ceiling(6999);
        begin(exact, 6, 1000);
        due("room for one more in the year", exact.bought(0, 23), 1);

        // 5 shares count 1000 each by the first offer, then 500 each by the one that follows.
        LookbackPlan mixed = bought(10, 1000, 5000, 500);
        mixed.ceiling(6000);
        begin(mixed, 6, 500);
        due("counted by two offers", mixed.bought(0, 11), 2);
        due("counted by two offers", mixed.counted(0, 0), 6000);

        LookbackPlan lowered = bought(10, 1000, 5000, 1000);
        lowered.ceiling(1000);
        begin(lowered, 6, 1000);
        due("a ceiling below what counts already", lowered.bought(0, 11), 0);
        due("the lots before stay", lowered.bought(0, 5), 5);

        LookbackPlan sold = bought(10, 1000, 5000, 1000);
        sold.sell(0, 5);
        begin(sold, 6, 1000);
        due("sold shares count too", sold.bought(0, 11), 0);

        LookbackPlan two = started(10, 1000);
        two.join(10);
        two.ceiling(5000);
        two.slip(0, 5000000);
        two.slip(1, 5000000);
        begin(two, 6, 1000);
        due("each member has the whole ceiling", two.bought(0, 5), 5);
        due("each member has the whole ceiling", two.bought(1, 5), 5);
    }

    private static void promise02OfferIsRenewed() {
        LookbackPlan equal = started(10, 1000);
        begin(equal, 6, 1000);
        due("an equal price renews nothing", equal.offerMonth(0), 0);
        due("no reset", equal.resets(0), 0);

        LookbackPlan fallen = started(10, 1000);
        begin(fallen, 4, 1000);
        begin(fallen, 1, 999);
        due("not ahead of the end of the month", fallen.offerMonth(0), 0);
        fallen.next(5);
        due("a lower price renews", fallen.offerMonth(0), 5);
        due("a lower price renews", fallen.offerPrice(0), 999);
        due("a reset", fallen.resets(0), 1);

        LookbackPlan fourth = started(10, 100);
        begin(fourth, 18, 200);
        due("three purchases", fourth.offerMonth(0), 0);
        begin(fourth, 5, 200);
        due("ahead of the end of the fourth", fourth.offerMonth(0), 0);
        fourth.next(7);
        due("the fourth purchase renews, without shares too", fourth.offerMonth(0), 23);
        due("the first price of the new offer", fourth.offerPrice(0), 200);
        due("no reset", fourth.resets(0), 0);
        begin(fourth, 18, 200);
        due("three purchases of the new offer", fourth.offerMonth(0), 23);
        begin(fourth, 6, 200);
        due("the fourth purchase of the new offer", fourth.offerMonth(0), 47);

        // The count begins at 0 with an offer that follows a fall.
        LookbackPlan again = started(10, 100);
        begin(again, 12, 100);
        begin(again, 6, 90);
        due("renewed at the third purchase", again.offerMonth(0), 17);
        begin(again, 18, 95);
        due("three purchases since", again.offerMonth(0), 17);
        begin(again, 6, 95);
        due("four purchases since", again.offerMonth(0), 41);
        due("one reset", again.resets(0), 1);

        // The lot of the purchase that renews was bought by the offer before.
        LookbackPlan lot = bought(10, 1000, 5000, 500);
        due("counted by the offer before", lot.counted(0, 0), 5000);
    }

    private static void promise02ThoseWhoLeftBuyNothing() {
        LookbackPlan plan = started(10, 100);
        plan.join(10);
        plan.slip(0, 10000);
        plan.slip(1, 10000);
        plan.leave(0);
        begin(plan, 6, 50);
        due("one who left", plan.shares(0), 0);
        due("one who left has the last offer", plan.offerMonth(0), 0);
        due("one who left has the last offer", plan.offerPrice(0), 100);
        due("one who left has no resets", plan.resets(0), 0);
        due("one who stays", plan.shares(1), 23);
        due("one who stays", plan.offerMonth(1), 5);
    }

    private static void promise03Month() {
        LookbackPlan plan = new LookbackPlan();
        due("none has begun", plan.month(), -1);
        for (int month = 0; month < 60; month++) {
            plan.next(1);
            due("month", plan.month(), month);
        }
    }

    private static void promise04Ceiling() {
        LookbackPlan plan = new LookbackPlan();
        due("the first", plan.ceiling(0), 2500000);
        due("0", plan.ceiling(10000000), 0);
        for (int cents : new int[] {-1, 10000001, Integer.MIN_VALUE, Integer.MAX_VALUE}) {
            throwsDue("ceiling " + cents, BAD_ARGUMENT, () -> plan.ceiling(cents));
        }
        due("the highest, after refusals", plan.ceiling(7), 10000000);
        due("the last", plan.ceiling(7), 7);

        LookbackPlan atFirst = started(15, 1);
        for (int i = 0; i < 4; i++) {
            atFirst.slip(0, 5000000);
        }
        begin(atFirst, 6, 1);
        due("2500000 cents bind at first", atFirst.bought(0, 5), 2500000);
        due("the rest", atFirst.money(0), 500000);

        LookbackPlan later = bought(10, 1000, 5000, 1000);
        later.ceiling(0);
        due("purchases before stay", later.shares(0), 5);
    }

    // ---- members

    private static void promise05Join() {
        LookbackPlan plan = new LookbackPlan();
        throwsDue("no month has begun", BAD_STATE, () -> plan.join(10));
        throwsDue("a bad rate comes first", BAD_ARGUMENT, () -> plan.join(0));
        plan.next(100);
        for (int rate : new int[] {0, 16, -1, Integer.MIN_VALUE, Integer.MAX_VALUE}) {
            throwsDue("rate " + rate, BAD_ARGUMENT, () -> plan.join(rate));
        }
        throwsDue("nobody has joined", BAD_INDEX, () -> plan.money(0));
        due("the lowest rate", plan.join(1), 0);
        due("the highest rate", plan.join(15), 1);
        plan.next(200);
        plan.leave(1);
        due("one who left keeps the number", plan.join(10), 2);
        due("the offer begins in the month", plan.offerMonth(2), 1);
        due("the offer begins at its price", plan.offerPrice(2), 200);
        due("no money at first", plan.money(2), 0);
        due("no shares at first", plan.shares(2), 0);
        due("4th", plan.join(10), 3);
        due("5th", plan.join(10), 4);
        due("6th", plan.join(10), 5);
        throwsDue("a 7th", BAD_STATE, () -> plan.join(10));
        throwsDue("a bad rate of a 7th", BAD_ARGUMENT, () -> plan.join(16));
        throwsDue("the 7th did not join", BAD_INDEX, () -> plan.money(6));
        due("the 6th did", plan.money(5), 0);
    }

    private static void promise06Rate() {
        LookbackPlan plan = started(10, 100);
        plan.join(4);
        due("the rate before", plan.rate(0, 1), 10);
        due("the rate before", plan.rate(0, 15), 1);
        for (int rate : new int[] {0, 16, -1, Integer.MIN_VALUE, Integer.MAX_VALUE}) {
            throwsDue("rate " + rate, BAD_ARGUMENT, () -> plan.rate(0, rate));
        }
        due("slips that come", plan.slip(0, 1000), 150);
        due("another member's slips", plan.slip(1, 1000), 40);
        plan.rate(0, 2);
        due("slips before stay", plan.money(0), 150);
        plan.leave(0);
        throwsDue("has left", BAD_STATE, () -> plan.rate(0, 2));
        throwsDue("has left, and a bad rate", BAD_ARGUMENT, () -> plan.rate(0, 0));
        throwsDue("no such member, and a bad rate", BAD_INDEX, () -> plan.rate(2, 0));
    }

    private static void promise07Slip() {
        LookbackPlan plan = started(15, 100);
        due("rounded down", plan.slip(0, 99), 14);
        due("nothing to keep", plan.slip(0, 6), 0);
        due("the first cent", plan.slip(0, 7), 1);
        due("0", plan.slip(0, 0), 0);
        due("the most", plan.slip(0, 5000000), 750000);
        due("slips of one month add up", plan.money(0), 750015);
        for (int gross : new int[] {-1, 5000001, Integer.MIN_VALUE, Integer.MAX_VALUE}) {
            throwsDue("gross " + gross, BAD_ARGUMENT, () -> plan.slip(0, gross));
        }
        due("refusals keep nothing", plan.money(0), 750015);
        plan.leave(0);
        throwsDue("has left", BAD_STATE, () -> plan.slip(0, 1));
        throwsDue("has left, and a bad gross", BAD_ARGUMENT, () -> plan.slip(0, -1));
        throwsDue("no such member, and a bad gross", BAD_INDEX, () -> plan.slip(1, -1));
        due("kept ahead of leaving", plan.kept(0), 750015);
    }

    private static void promise08Leave() {
        LookbackPlan plan = bought(10, 1000, 5000, 1000);
        due("the money", plan.leave(0), 500000 - 5 * 850);
        due("money is given back", plan.money(0), 0);
        due("shares stay", plan.shares(0), 5);
        throwsDue("has left already", BAD_STATE, () -> plan.leave(0));
        throwsDue("no such member", BAD_INDEX, () -> plan.leave(1));
        due("sells still", plan.sell(0, 1), 1);
        due("no money", started(10, 100).leave(0), 0);
    }

    private static void promise09Money() {
        LookbackPlan plan = started(10, 100);
        due("at first", plan.money(0), 0);
        plan.slip(0, 1000);
        due("after a slip", plan.money(0), 100);
        begin(plan, 6, 100);
        due("after a purchase", plan.money(0), 15);
        plan.sell(0, 1);
        due("a sale brings no money to the plan", plan.money(0), 15);
        plan.leave(0);
        due("after leaving", plan.money(0), 0);
    }

    private static void promise10OfferMonth() {
        LookbackPlan plan = new LookbackPlan();
        begin(plan, 4, 100);
        plan.join(10);
        due("the month of joining", plan.offerMonth(0), 3);
        begin(plan, 2, 99);
        due("the month of now is another", plan.offerMonth(0), 3);
        plan.next(99);
        due("the purchase month that renewed", plan.offerMonth(0), 5);
        plan.leave(0);
        begin(plan, 6, 50);
        due("the last one of a member who left", plan.offerMonth(0), 5);
    }

    private static void promise11OfferPrice() {
        LookbackPlan plan = started(10, 321);
        due("the price of joining", plan.offerPrice(0), 321);
        begin(plan, 6, 320);
        due("the price that renewed", plan.offerPrice(0), 320);
        begin(plan, 6, 400);
        due("a higher price renews nothing", plan.offerPrice(0), 320);
        plan.leave(0);
        begin(plan, 6, 1);
        due("the last one of a member who left", plan.offerPrice(0), 320);
    }

    private static void promise12Resets() {
        LookbackPlan plan = started(10, 1000);
        due("none at first", plan.resets(0), 0);
        begin(plan, 6, 900);
        due("one for a fall", plan.resets(0), 1);
        begin(plan, 18, 900);
        due("equal prices", plan.resets(0), 1);
        due("three purchases", plan.offerMonth(0), 5);
        begin(plan, 6, 899);
        due("the fourth time, and fallen too", plan.resets(0), 2);
        due("the fourth time, and fallen too", plan.offerMonth(0), 29);
        begin(plan, 24, 899);
        due("the fourth time alone is none", plan.resets(0), 2);
        due("the fourth time alone", plan.offerMonth(0), 53);
    }

    // ---- shares

    private static void promise13Shares() {
        LookbackPlan plan = started(10, 100);
        due("at first", plan.shares(0), 0);
        plan.slip(0, 10000);
        begin(plan, 6, 100);
        due("one lot", plan.shares(0), 11);
        plan.slip(0, 10000);
        begin(plan, 6, 100);
        due("two lots", plan.shares(0), 23);
        plan.sell(0, 12);
        due("after a sale", plan.shares(0), 11);
        plan.sell(0, 11);
        due("after all are sold", plan.shares(0), 0);
    }

    private static void promise14Bought() {
        LookbackPlan plan = bought(10, 1000, 5000, 1000);
        due("the lot", plan.bought(0, 5), 5);
        plan.sell(0, 5);
        due("sold ones too", plan.bought(0, 5), 5);
        for (int month = 0; month < 60; month++) {
            due("bought in month " + month, plan.bought(0, month), month == 5 ? 5 : 0);
        }
        for (int month : new int[] {-1, 60, 65, Integer.MIN_VALUE, Integer.MAX_VALUE}) {
            throwsDue("no such month", BAD_INDEX, () -> plan.bought(0, month));
        }
    }

    private static void promise15PaidEach() {
        LookbackPlan plan = bought(10, 1000, 5000, 1000);
        plan.sell(0, 1);
        for (int month = 0; month < 60; month++) {
            due("paid in month " + month, plan.paidEach(0, month), month == 5 ? 850 : -1);
        }
        plan.sell(0, 4);
        due("of a lot that was sold", plan.paidEach(0, 5), 850);
        for (int month : new int[] {-1, 60, 65, Integer.MIN_VALUE, Integer.MAX_VALUE}) {
            throwsDue("no such month", BAD_INDEX, () -> plan.paidEach(0, month));
        }
        plan.ceiling(0);
        begin(plan, 6, 1000);
        due("a purchase of no shares is no lot", plan.paidEach(0, 11), LookbackPlan.NONE);
    }

    private static void promise16Counted() {
        LookbackPlan plan = bought(10, 1000, 5000, 900);
        due("the first prices, not the prices paid", plan.counted(0, 0), 5000);
        plan.sell(0, 5);
        due("sold ones too", plan.counted(0, 0), 5000);
        for (int year = 1; year <= 4; year++) {
            due("a year without a lot", plan.counted(0, year), 0);
        }
        begin(plan, 12, 900);
        due("the next year", plan.counted(0, 1), 4500);
        due("the year before stays", plan.counted(0, 0), 5000);
        for (int year : new int[] {-1, 5, Integer.MIN_VALUE, Integer.MAX_VALUE}) {
            throwsDue("no such year", BAD_INDEX, () -> plan.counted(0, year));
        }
    }

    private static void promise17Traced() {
        LookbackPlan plan = started(10, 100);
        due("at first", plan.traced(0), 0);
        plan.slip(0, 10000);
        due("the money", plan.traced(0), 1000);
        begin(plan, 6, 100);
        plan.slip(0, 5000);
        due("what was spent, and the money", plan.traced(0), 1500);
        plan.sell(0, 11);
        due("a sale changes nothing", plan.traced(0), 1500);
        plan.leave(0);
        due("what was given back too", plan.traced(0), 1500);
    }

    private static void promise18Kept() {
        LookbackPlan plan = started(10, 100);
        due("at first", plan.kept(0), 0);
        plan.slip(0, 10009);
        plan.rate(0, 15);
        plan.slip(0, 99);
        due("all that was kept", plan.kept(0), 1014);
        begin(plan, 6, 100);
        plan.leave(0);
        due("after a purchase and leaving", plan.kept(0), 1014);
    }

    // ---- sales

    private static void promise19SellCountsEarlyOnes() {
        LookbackPlan byOffer = elevenShares(0);
        begin(byOffer, 17, 300);
        due("23 months after the offer began", byOffer.sell(0, 2), 2);
        byOffer.next(300);
        due("24 months after the offer began", byOffer.sell(0, 2), 0);

        LookbackPlan joinedLater = elevenShares(4);
        begin(joinedLater, 21, 300);
        due("month", joinedLater.month(), 27);
        due("23 months after the offer began in 4", joinedLater.sell(0, 2), 2);
        joinedLater.next(300);
        due("24 months after the offer began in 4", joinedLater.sell(0, 2), 0);

        // Joined in 0, the lot is of 17: 24 months of the offer end before 12 of the purchase.
        LookbackPlan byPurchase = started(10, 100);
        begin(byPurchase, 17, 100);
        byPurchase.slip(0, 10000);
        byPurchase.next(100);
        begin(byPurchase, 10, 300);
        due("month", byPurchase.month(), 28);
        due("11 months after the purchase", byPurchase.sell(0, 2), 2);
        byPurchase.next(300);
        due("12 months after the purchase", byPurchase.sell(0, 2), 0);

        // The lot keeps the offer by which it was bought though a new one began with it.
        LookbackPlan renewed = started(10, 100);
        renewed.slip(0, 10000);
        begin(renewed, 6, 50);
        begin(renewed, 18, 50);
        due("renewed", renewed.offerMonth(0), 5);
        due("24 months after the offer before began", renewed.sell(0, 1), 0);
    }

    private static void promise19SellGoesFromTheOldestLotOn() {
        LookbackPlan plan = elevenShares(0);
        begin(plan, 6, 100);
        begin(plan, 5, 100);
        plan.slip(0, 10000);
        plan.next(100);
        begin(plan, 6, 100);
        due("month", plan.month(), 24);
        due("two lots, of 11 and 12 shares", plan.shares(0), 23);
        due("11 late ones, then early ones", plan.sell(0, 13), 2);
        due("the rest is of the newer lot", plan.sell(0, 10), 10);
        due("all is sold", plan.shares(0), 0);
    }

    private static void promise19SellRefuses() {
        LookbackPlan plan = elevenShares(0);
        for (int shares : new int[] {0, -1, 1000001, Integer.MIN_VALUE, Integer.MAX_VALUE}) {
            throwsDue("shares " + shares, BAD_ARGUMENT, () -> plan.sell(0, shares));
        }
        throwsDue("one more than there are", BAD_STATE, () -> plan.sell(0, 12));
        throwsDue("the most in one sale", BAD_STATE, () -> plan.sell(0, 1000000));
        throwsDue("no such member, and bad shares", BAD_INDEX, () -> plan.sell(1, 0));
        due("refusals sell nothing", plan.shares(0), 11);
        due("refusals bring no pay", plan.pay(0), 0);
        plan.leave(0);
        due("one who has left sells too", plan.sell(0, 11), 11);
        throwsDue("none are left", BAD_STATE, () -> plan.sell(0, 1));
    }

    private static void promise20PayOfEarlyAndLate() {
        LookbackPlan early = elevenShares(0);
        due("at first", early.pay(0), 0);
        begin(early, 1, 40);
        early.sell(0, 2);
        due("early: price of the purchase month less the price paid", early.pay(0), 2 * 15);
        begin(early, 1, 1000);
        early.sell(0, 1);
        due("early: whatever the price of now", early.pay(0), 3 * 15);

        due("late: 15 hundredths of the first price", latePay(119, 1000), 17);
        due("late: rounded down", latePay(100, 1000), 15);
        due("late: exactly what the share brings", latePay(100, 100), 15);
        due("late: at most what the share brings", latePay(100, 99), 14);
        due("late: a share that brings nothing", latePay(100, 85), 0);
        due("late: at least 0", latePay(100, 1), 0);
    }

    private static void promise21GainOfEarlyAndLate() {
        LookbackPlan early = elevenShares(0);
        due("at first", early.gain(0), 0);
        begin(early, 1, 40);
        early.sell(0, 2);
        due("early: below 0", early.gain(0), 2 * (40 - 100));
        begin(early, 1, 1000);
        early.sell(0, 1);
        due("early: the sum of all sales", early.gain(0), 2 * (40 - 100) + 900);

        due("late: the rest", lateGain(100, 1000), 1000 - 85 - 15);
        due("late: all is pay", lateGain(100, 100), 0);
        due("late: all is pay", lateGain(100, 99), 0);
        due("late: a loss", lateGain(100, 1), 1 - 85);
    }

    private static void promise22GainNow() {
        LookbackPlan plan = elevenShares(0);
        due("early, the same price", plan.gainNow(0), 0);
        plan.next(40);
        due("early, fallen", plan.gainNow(0), 11 * (40 - 100));
        plan.sell(0, 1);
        due("sold ones no more", plan.gainNow(0), 10 * (40 - 100));
        due("asking sells nothing", plan.shares(0), 10);
        begin(plan, 10, 100);
        plan.slip(0, 10000);
        begin(plan, 7, 300);
        due("month", plan.month(), 24);
        due("a late lot and an early one", plan.gainNow(0), 10 * (300 - 85 - 15) + 12 * (300 - 100));
        long before = plan.gain(0);
        long told = plan.gainNow(0);
        plan.sell(0, plan.shares(0));
        due("what a sale of all brings", plan.gain(0) - before, told);
        due("nothing is left", plan.gainNow(0), 0);

        LookbackPlan left = elevenShares(0);
        left.leave(0);
        left.next(150);
        due("one who has left", left.gainNow(0), 11 * 50);
    }

    private static void noSuchMemberComesFirst() {
        LookbackPlan plan = started(10, 100);
        for (int member : new int[] {-1, 1, 5, 6, Integer.MIN_VALUE, Integer.MAX_VALUE}) {
            throwsDue("rate", BAD_INDEX, () -> plan.rate(member, 0));
            throwsDue("slip", BAD_INDEX, () -> plan.slip(member, -1));
            throwsDue("leave", BAD_INDEX, () -> plan.leave(member));
            throwsDue("money", BAD_INDEX, () -> plan.money(member));
            throwsDue("offerMonth", BAD_INDEX, () -> plan.offerMonth(member));
            throwsDue("offerPrice", BAD_INDEX, () -> plan.offerPrice(member));
            throwsDue("resets", BAD_INDEX, () -> plan.resets(member));
            throwsDue("shares", BAD_INDEX, () -> plan.shares(member));
            throwsDue("bought", BAD_INDEX, () -> plan.bought(member, 5));
            throwsDue("paidEach", BAD_INDEX, () -> plan.paidEach(member, 5));
            throwsDue("counted", BAD_INDEX, () -> plan.counted(member, 0));
            throwsDue("traced", BAD_INDEX, () -> plan.traced(member));
            throwsDue("kept", BAD_INDEX, () -> plan.kept(member));
            throwsDue("sell", BAD_INDEX, () -> plan.sell(member, 0));
            throwsDue("pay", BAD_INDEX, () -> plan.pay(member));
            throwsDue("gain", BAD_INDEX, () -> plan.gain(member));
            throwsDue("gainNow", BAD_INDEX, () -> plan.gainNow(member));
        }
    }

    private static void largestSums() {
        LookbackPlan plan = new LookbackPlan();
        plan.next(1);
        plan.join(15);
        plan.ceiling(10000000);
        for (int i = 0; i < 440; i++) {
            plan.slip(0, 5000000);
        }
        due("money", plan.money(0), 330000000);
        begin(plan, 5, 1);
        plan.next(100000);
        due("a whole ceiling of the cheapest shares", plan.shares(0), 10000000);
        due("counted", plan.counted(0, 0), 10000000);
        due("gain beyond an int", plan.gainNow(0), 10000000L * 99999);
        due("the most in one sale", plan.sell(0, 1000000), 1000000);
        due("gain of the sale beyond an int", plan.gain(0), 1000000L * 99999);
        begin(plan, 23, 100000);
        plan.sell(0, 1000000);
        due("the new year's shares cost 1 each", plan.paidEach(0, 17), 1);
        due("kept", plan.kept(0), 330000000);
        due("traced", plan.traced(0), 330000000);
    }

    private static long latePay(int first, int now) {
        return soldLate(first, now).pay(0);
    }

    private static long lateGain(int first, int now) {
        return soldLate(first, now).gain(0);
    }
}
