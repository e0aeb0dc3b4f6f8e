/** One test for each sentence of the document that names a boundary case, in the document's order. */
public final class LookbackPlanBoundaries extends PlanTest {
    private static final int[] PURCHASE_MONTHS = {5, 11, 17, 23, 29, 35, 41, 47, 53};
    private static final int[] YEARS_OF_PURCHASES = {0, 0, 1, 1, 2, 2, 3, 3, 4};

    private interface MemberCall {
        long run(LookbackPlan plan, int member);
    }

    private interface NumberCall {
        long run(int number);
    }

    public static void main(String[] args) {
        useAndMonths();
        joiningAndSlips();
        purchases();
        offersAndCeiling();
        sales();
        whichExceptionComesFirst();
        promisesOfMonths();
        promisesOfMembers();
        promisesOfShares();
        promisesOfSales();
        noSuchMember();
        sumsBeyondAnInt();
        finish();
    }

    // ---- Terms: months, members, slips

    private static void useAndMonths() {
        sentence("An object is used for at most 512 calls after it has been made.", () -> {
            LookbackPlan plan = started(15, 1);
            for (int call = 3; call <= 510; call++) {
                due("call " + call, plan.slip(0, 5000000), 750000);
            }
            due("call 511", plan.kept(0), 381000000);
            due("call 512", plan.leave(0), 381000000);
        });
        sentence("Months are numbered from 0 to 59; they are begun one after the other.", () -> {
            LookbackPlan plan = new LookbackPlan();
            for (int month = 0; month <= 59; month++) {
                due("next", plan.next(100), month);
            }
            throwsDue("a month 60", BAD_STATE, () -> plan.next(100));
        });
        sentence("The month m is in the year m / 12, rounded down.", () -> {
            for (int i = 0; i < PURCHASE_MONTHS.length; i++) {
                LookbackPlan plan = oneShareOf(PURCHASE_MONTHS[i]);
                for (int year = 0; year <= 4; year++) {
                    due("a share of month " + PURCHASE_MONTHS[i] + " in year " + year,
                            plan.counted(0, year), year == YEARS_OF_PURCHASES[i] ? 100 : 0);
                }
            }
        });
        sentence("The months 5, 11, 17 and so on, every sixth one, are purchase months.", () -> {
            for (int month = 0; month <= 58; month++) {
                boolean due = false;
                for (int purchaseMonth : PURCHASE_MONTHS) {
                    due |= month == purchaseMonth;
                }
                due("bought at the end of month " + month, oneShareOf(month).bought(0, month), due ? 1 : 0);
            }
            LookbackPlan last = joinedIn(59, 10, 100);
            last.slip(0, 1000);
            throwsDue("the end of month 59", BAD_STATE, () -> last.next(100));
            due("bought at the end of month 59", last.bought(0, 59), 0);
        });
    }

    private static void joiningAndSlips() {
        sentence("Members are numbered from 0, at most 6.", () -> {
            LookbackPlan plan = new LookbackPlan();
            plan.next(100);
            for (int member = 0; member <= 5; member++) {
                due("join", plan.join(10), member);
            }
            throwsDue("a seventh", BAD_STATE, () -> plan.join(10));
            plan.leave(5);
            throwsDue("a seventh, when one has left", BAD_STATE, () -> plan.join(10));
            throwsDue("there is no member 6", BAD_INDEX, () -> plan.money(6));
        });
        sentence("A member joins in a month, with a rate, 1 to 15 hundredths.", () -> {
            due("the lowest rate", started(1, 100).slip(0, 100), 1);
            due("the highest rate", started(15, 100).slip(0, 100), 15);
        });
        sentence("Its first month is that month, its first price the price of that month.", () -> {
            LookbackPlan first = started(10, 1);
            due("the first month", first.offerMonth(0), 0);
            due("the lowest price", first.offerPrice(0), 1);
            LookbackPlan last = joinedIn(59, 10, 100000);
            due("the last month", last.offerMonth(0), 59);
            due("the highest price", last.offerPrice(0), 100000);
            LookbackPlan later = joinedIn(2, 10, 700);
            begin(later, 2, 600);
            due("not the month of now", later.offerMonth(0), 2);
            due("not the price of now", later.offerPrice(0), 700);
        });
        sentence("The gross of each, times the rate, divided by 100, rounded down, is kept.", () -> {
            due("99 hundredths of a cent", started(1, 100).slip(0, 99), 0);
            due("a whole cent", started(1, 100).slip(0, 100), 1);
            due("199 hundredths of a cent", started(1, 100).slip(0, 199), 1);
            due("just below the most", started(15, 100).slip(0, 4999999), 749999);
            due("the most", started(15, 100).slip(0, 5000000), 750000);
            LookbackPlan halves = started(1, 100);
            halves.slip(0, 50);
            halves.slip(0, 50);
            due("two halves, each rounded down", halves.money(0), 0);
        });
    }

    // ---- Terms: purchases

    private static void purchases() {
        sentence("When the next month is begun, and the month before it was a purchase month.", () -> {
            LookbackPlan plan = started(10, 100);
            begin(plan, 5, 100);
            due("a slip in the purchase month", plan.slip(0, 850), 85);
            due("nothing ahead of its end", plan.shares(0), 0);
            plan.next(100);
            due("bought when month 6 begins", plan.shares(0), 1);
            plan.slip(0, 850);
            plan.next(100);
            due("a slip of month 6 waits for month 11", plan.shares(0), 1);
            begin(plan, 4, 100);
            due("not yet in month 11", plan.shares(0), 1);
            plan.next(100);
            due("bought when month 12 begins", plan.shares(0), 2);
            LookbackPlan late = joinedIn(6, 10, 100);
            late.slip(0, 1000);
            late.next(100);
            due("one who joined in month 6 bought nothing in 5", late.shares(0), 0);
        });
        sentence("Shares are bought for each member who has not left.", () -> {
            LookbackPlan plan = started(10, 100);
            for (int member = 1; member <= 5; member++) {
                plan.join(10);
            }
            begin(plan, 5, 100);
            for (int member = 0; member <= 5; member++) {
                plan.slip(member, 850);
            }
            plan.leave(0);
            plan.leave(3);
            plan.next(100);
            for (int member = 0; member <= 5; member++) {
                due("member " + member, plan.shares(member), member == 0 || member == 3 ? 0 : 1);
            }
            plan.leave(5);
            due("one who leaves right after", plan.shares(5), 1);
        });
        sentence("The purchase price is 85 hundredths of the lower one, rounded up.", () -> {
            int[] prices = {1, 2, 3, 6, 7, 13, 19, 20, 21, 39, 40, 41, 99999, 100000};
            int[] paid = {1, 2, 3, 6, 6, 12, 17, 17, 18, 34, 34, 35, 85000, 85000};
            for (int i = 0; i < prices.length; i++) {
                due("85 hundredths of " + prices[i], priceAfter(prices[i], prices[i]), paid[i]);
            }
        });
        sentence("The lower one of the first price and the price of the purchase month.", () -> {
            due("both the same", priceAfter(1000, 1000), 850);
            due("the purchase month is 20 lower", priceAfter(1000, 980), 833);
            due("the first price is 20 lower", priceAfter(980, 1000), 833);
            due("the lowest and the highest", priceAfter(1, 100000), 1);
            due("the highest and the lowest", priceAfter(100000, 1), 1);
        });
        sentence("The member gets as many shares as can be paid by the money.", () -> {
            int[] money = {0, 849, 850, 851, 1699, 1700, 1701};
            int[] shares = {0, 0, 1, 1, 1, 2, 2};
            for (int i = 0; i < money.length; i++) {
                due("shares for " + money[i], withMoney(money[i], 1000).shares(0), shares[i]);
            }
        });
        sentence("But at most so many that all shares are not more than the ceiling.", () -> {
            int[] ceilings = {0, 999, 1000, 4999, 5000, 5001, 6000};
            int[] shares = {0, 0, 1, 4, 5, 5, 6};
            for (int i = 0; i < ceilings.length; i++) {
                due("shares under " + ceilings[i], bought(10, 1000, ceilings[i], 1000).shares(0), shares[i]);
            }
        });
        sentence("All shares that the member bought in this year, this purchase included.", () -> {
            due("the year is full", secondOfYear(5000, 5000), 0);
            due("one cent too few", secondOfYear(5000, 5999), 0);
            due("room for one", secondOfYear(5000, 6000), 1);
            due("a ceiling below what counts already", secondOfYear(5000, 4999), 0);
            due("a ceiling of 0", secondOfYear(5000, 0), 0);
            LookbackPlan plan = bought(10, 1000, 1000, 1000);
            begin(plan, 53, 1000);
            for (int i = 0; i < PURCHASE_MONTHS.length; i++) {
                due("each year anew, month " + PURCHASE_MONTHS[i], plan.bought(0, PURCHASE_MONTHS[i]),
                        i % 2 == 0 ? 1 : 0);
            }
        });
        sentence("Each counted with the first price of the offer by which it was bought.", () -> {
            due("a first price above the price paid for", bought(10, 1000, 5000, 500).shares(0), 5);
            due("a first price below that month's", bought(10, 500, 5000, 1000).shares(0), 10);
            // 5 shares count 1000 each by the first offer, those of the new offer 500 each.
            LookbackPlan none = bought(10, 1000, 5000, 500);
            none.ceiling(5499);
            begin(none, 6, 500);
            due("one cent too few", none.bought(0, 11), 0);
            LookbackPlan one = bought(10, 1000, 5000, 500);
            one.ceiling(5500);
            begin(one, 6, 500);
            due("room for one of the new offer", one.bought(0, 11), 1);
            due("counted by both offers", one.counted(0, 0), 5500);
        });
        sentence("They are a lot. (A lot may have no shares; then there is none.)", () -> {
            LookbackPlan none = withMoney(849, 1000);
            due("no shares", none.bought(0, 5), 0);
            due("no lot", none.paidEach(0, 5), LookbackPlan.NONE);
            due("a lot of one share", withMoney(850, 1000).paidEach(0, 5), 850);
            LookbackPlan gap = withMoney(850, 1000);
            begin(gap, 6, 1000);
            gap.slip(0, 85000);
            begin(gap, 6, 1000);
            due("no lot between two lots", gap.paidEach(0, 11), LookbackPlan.NONE);
            due("sold over the gap", gap.sell(0, 2), 2);
            due("all are sold", gap.shares(0), 0);
        });
        sentence("What is not spent stays as money.", () -> {
            due("one cent too few for a share", withMoney(849, 1000).money(0), 849);
            due("all is spent", withMoney(850, 1000).money(0), 0);
            due("one cent is left", withMoney(851, 1000).money(0), 1);
            due("a ceiling of 0 spends nothing", bought(10, 1000, 0, 1000).money(0), 500000);
            LookbackPlan later = withMoney(849, 1000);
            later.slip(0, 100);
            begin(later, 6, 1000);
            due("it pays at the next purchase", later.bought(0, 11), 1);
        });
    }

    // ---- Terms: offers, the ceiling

    private static void offersAndCeiling() {
        sentence("If the price of the purchase month is less than the first price.", () -> {
            due("one cent more", offerAfter(1000, 1001), 0);
            due("the same", offerAfter(1000, 1000), 0);
            due("one cent less", offerAfter(1000, 999), 5);
            due("the lowest price stays", offerAfter(1, 1), 0);
            due("to the lowest price", offerAfter(2, 1), 5);
            LookbackPlan other = started(10, 1000);
            begin(other, 4, 1);
            begin(other, 1, 1000);
            other.next(1);
            due("lower prices in other months", other.offerMonth(0), 0);
        });
        sentence("Or this was the fourth time that shares were bought by this offer.", () -> {
            LookbackPlan plan = started(10, 100);
            plan.slip(0, 1000000);
            begin(plan, 18, 100);
            due("after the third", plan.offerMonth(0), 0);
            begin(plan, 5, 100);
            due("ahead of the fourth", plan.offerMonth(0), 0);
            plan.next(100);
            due("after the fourth", plan.offerMonth(0), 23);
            begin(plan, 18, 100);
            due("after the third of the new offer", plan.offerMonth(0), 23);
            begin(plan, 6, 100);
            due("after the fourth of the new offer", plan.offerMonth(0), 47);

            LookbackPlan joined = joinedIn(5, 10, 100);
            begin(joined, 18, 100);
            due("joined in 5, after the third", joined.offerMonth(0), 5);
            joined.next(100);
            due("joined in 5, after the fourth", joined.offerMonth(0), 23);

            LookbackPlan fallen = started(10, 100);
            begin(fallen, 16, 100);
            begin(fallen, 25, 99);
            due("renewed at the third, then three more", fallen.offerMonth(0), 17);
            begin(fallen, 1, 99);
            due("renewed at the third, then four more", fallen.offerMonth(0), 41);
        });
        sentence("(Also if there were none to buy.)", () -> {
            LookbackPlan poor = started(10, 100);
            begin(poor, 23, 100);
            due("ahead of the fourth, without money", poor.offerMonth(0), 0);
            poor.next(100);
            due("the fourth, without money", poor.offerMonth(0), 23);
            LookbackPlan full = started(10, 100);
            full.ceiling(0);
            full.slip(0, 1000000);
            begin(full, 24, 100);
            due("the fourth, under a ceiling of 0", full.offerMonth(0), 23);
        });
        sentence("Its first month is the purchase month, its first price that month's price.", () -> {
            LookbackPlan fallen = started(10, 1000);
            begin(fallen, 5, 999);
            fallen.next(5);
            due("a fall", fallen.offerPrice(0), 999);
            due("a fall", fallen.offerMonth(0), 5);
            LookbackPlan fourth = started(10, 1000);
            begin(fourth, 22, 1500);
            begin(fourth, 1, 100000);
            fourth.next(7);
            due("the fourth time, at a higher price", fourth.offerPrice(0), 100000);
            due("the fourth time, at a higher price", fourth.offerMonth(0), 23);
        });
        sentence("The ceiling is 2500000 cents at first.", () -> {
            LookbackPlan cheap = started(15, 1);
            LookbackPlan dear = started(15, 100000);
            for (int i = 0; i < 4; i++) {
                cheap.slip(0, 5000000);
                dear.slip(0, 5000000);
            }
            begin(cheap, 6, 1);
            begin(dear, 6, 100000);
            due("shares of 1", cheap.shares(0), 2500000);
            due("shares of 100000", dear.shares(0), 25);
            due("the ceiling before", new LookbackPlan().ceiling(0), 2500000);
        });
    }

    // ---- Terms: sales

    private static void sales() {
        sentence("A member, also one who has left, sells shares.", () -> {
            LookbackPlan plan = elevenShares(0);
            plan.leave(0);
            due("early", plan.sell(0, 1), 1);
            begin(plan, 18, 200);
            due("late", plan.sell(0, 1), 0);
            begin(plan, 35, 300);
            due("in month 59", plan.sell(0, 9), 0);
            due("the price of now", plan.gain(0), (200 - 85 - 15) + 9 * (300 - 85 - 15));
        });
        sentence("From the oldest lot on.", () -> {
            due("one fewer than the oldest lot", twoLots().sell(0, 10), 0);
            due("the oldest lot", twoLots().sell(0, 11), 0);
            due("one more than the oldest lot", twoLots().sell(0, 12), 1);
            due("all", twoLots().sell(0, 23), 12);
            LookbackPlan parts = twoLots();
            due("10 of 11", parts.sell(0, 10), 0);
            due("the eleventh", parts.sell(0, 1), 0);
            due("the first of the newer lot", parts.sell(0, 1), 1);
            due("one of each of nine lots, the last one early", nineLots().sell(0, 9), 1);
            LookbackPlan last = nineLots();
            due("all but the last lot", last.sell(0, 8), 0);
            due("the last lot", last.sell(0, 1), 1);
            due("nothing is left", last.shares(0), 0);
        });
        sentence("A sale is early if fewer than 24 months lie between the first month and now.", () -> {
            for (int joined : new int[] {0, 4, 5}) {
                LookbackPlan plan = elevenShares(joined);
                begin(plan, joined + 23 - 6, 100);
                due("joined in " + joined + ", sold 23 months later", plan.sell(0, 1), 1);
                plan.next(100);
                due("joined in " + joined + ", sold 24 months later", plan.sell(0, 1), 0);
            }
            due("sold in the first month it can be", elevenShares(5).sell(0, 1), 1);
        });
        sentence("The first month of the offer by which it was bought.", () -> {
            LookbackPlan plan = started(10, 100);
            plan.slip(0, 10000);
            begin(plan, 23, 50);
            due("the offer of now", plan.offerMonth(0), 5);
            due("23 months after the first offer began", plan.sell(0, 1), 1);
            plan.next(50);
            due("24 months after the first offer began", plan.sell(0, 1), 0);
        });
        sentence("Or fewer than 12 between the purchase month and now.", () -> {
            LookbackPlan plan = boughtIn17(0);
            begin(plan, 28 - 18, 100);
            due("11 months after the purchase", plan.sell(0, 1), 1);
            plan.next(100);
            due("12 months after the purchase", plan.sell(0, 1), 0);
            LookbackPlan both = boughtIn17(5);
            begin(both, 28 - 18, 100);
            due("23 and 11 months", both.sell(0, 1), 1);
            both.next(100);
            due("24 and 12 months", both.sell(0, 1), 0);
        });
        sentence("Of an early one, the price of its purchase month less the purchase price is pay.", () -> {
            due("the same prices", earlyPay(100, 100, 1000), 15);
            due("the purchase month was dearer", earlyPay(100, 200, 1000), 115);
            due("the purchase month was cheaper", earlyPay(200, 100, 1000), 15);
            due("no rebate on one cent", earlyPay(1, 1, 1000), 0);
            due("a price of now below the price paid", earlyPay(100, 200, 1), 115);
        });
        sentence("The rest is gain (perhaps below 0).", () -> {
            due("above 0", earlyGain(100, 200, 201), 1);
            due("0", earlyGain(100, 200, 200), 0);
            due("below 0", earlyGain(100, 200, 199), -1);
            due("what the share brings is 0", earlyGain(100, 200, 85), -115);
            due("the share brings less than nothing", earlyGain(100, 200, 1), -199);
        });
        sentence("Of a late one pay is 15 hundredths of the first price, rounded down.", () -> {
            int[] first = {1, 6, 7, 13, 14, 99, 100, 119, 120};
            int[] pay = {0, 0, 1, 1, 2, 14, 15, 17, 18};
            for (int i = 0; i < first.length; i++) {
                due("15 hundredths of " + first[i], soldLate(first[i], 1000).pay(0), pay[i]);
            }
            due("15 hundredths of 100000", soldLate(100000, 100000).pay(0), 15000);
            LookbackPlan dearer = started(10, 200);
            dearer.slip(0, 10000);
            begin(dearer, 23, 100);
            dearer.next(1000);
            due("the offer by which it was bought", dearer.offerPrice(0), 100);
            due("late", dearer.sell(0, 1), 0);
            due("of its first price", dearer.pay(0), 30);
        });
        sentence("But at most what the share brings.", () -> {
            due("one cent more than 15 hundredths", soldLate(100, 101).pay(0), 15);
            due("as much as 15 hundredths", soldLate(100, 100).pay(0), 15);
            due("one cent less than 15 hundredths", soldLate(100, 99).pay(0), 14);
            due("one cent", soldLate(100, 86).pay(0), 1);
        });
        sentence("And at least 0.", () -> {
            due("the share brings nothing", soldLate(100, 85).pay(0), 0);
            due("the share brings a cent less than nothing", soldLate(100, 84).pay(0), 0);
            due("the lowest price", soldLate(100, 1).pay(0), 0);
        });
        sentence("Late: the rest is gain.", () -> {
            due("one cent more than 15 hundredths", soldLate(100, 101).gain(0), 1);
            due("as much as 15 hundredths", soldLate(100, 100).gain(0), 0);
            due("one cent less than 15 hundredths", soldLate(100, 99).gain(0), 0);
            due("the share brings nothing", soldLate(100, 85).gain(0), 0);
            due("the share brings a cent less than nothing", soldLate(100, 84).gain(0), -1);
            due("the lowest price", soldLate(100, 1).gain(0), -84);
        });
    }

    // ---- Terms: exceptions

    private static void whichExceptionComesFirst() {
        String listed = "Where two exceptions apply, the one that is listed first is thrown: ";
        sentence(listed + "next", () -> {
            LookbackPlan plan = joinedIn(59, 10, 100);
            throwsDue("price 0 in month 59", BAD_ARGUMENT, () -> plan.next(0));
            throwsDue("price 100001 in month 59", BAD_ARGUMENT, () -> plan.next(100001));
        });
        sentence(listed + "join", () -> {
            LookbackPlan none = new LookbackPlan();
            throwsDue("rate 0, no month", BAD_ARGUMENT, () -> none.join(0));
            throwsDue("rate 16, no month", BAD_ARGUMENT, () -> none.join(16));
            LookbackPlan full = full();
            throwsDue("rate 0, six members", BAD_ARGUMENT, () -> full.join(0));
            throwsDue("rate 16, six members", BAD_ARGUMENT, () -> full.join(16));
        });
        sentence(listed + "rate", () -> {
            LookbackPlan plan = oneLeft();
            throwsDue("member 1, rate 0", BAD_INDEX, () -> plan.rate(1, 0));
            throwsDue("member -1, rate 16", BAD_INDEX, () -> plan.rate(-1, 16));
            throwsDue("left, rate 0", BAD_ARGUMENT, () -> plan.rate(0, 0));
            throwsDue("left, rate 16", BAD_ARGUMENT, () -> plan.rate(0, 16));
        });
        sentence(listed + "slip", () -> {
            LookbackPlan plan = oneLeft();
            throwsDue("member 1, gross -1", BAD_INDEX, () -> plan.slip(1, -1));
            throwsDue("member -1, gross 5000001", BAD_INDEX, () -> plan.slip(-1, 5000001));
            throwsDue("left, gross -1", BAD_ARGUMENT, () -> plan.slip(0, -1));
            throwsDue("left, gross 5000001", BAD_ARGUMENT, () -> plan.slip(0, 5000001));
        });
        sentence(listed + "sell", () -> {
            LookbackPlan plan = started(10, 100);
            throwsDue("member 1, shares 0", BAD_INDEX, () -> plan.sell(1, 0));
            throwsDue("member -1, shares 1000001", BAD_INDEX, () -> plan.sell(-1, 1000001));
            throwsDue("shares 1000001 of none", BAD_ARGUMENT, () -> plan.sell(0, 1000001));
        });
    }

    // ---- Promises 1 to 4

    private static void promisesOfMonths() {
        sentence("A plan without members; no month has begun.", () -> {
            LookbackPlan plan = new LookbackPlan();
            due("the month", plan.month(), -1);
            throwsDue("member 0", BAD_INDEX, () -> plan.money(0));
        });
        sentence("next: price: 1 to 100000.", () ->
            inRange(1, 100000, price -> new LookbackPlan().next(price)));
        sentence("next: Throws IllegalStateException if it is the month 59.", () -> {
            LookbackPlan plan = new LookbackPlan();
            begin(plan, 59, 100);
            due("from month 58", plan.next(100), 59);
            throwsDue("the lowest price", BAD_STATE, () -> plan.next(1));
            throwsDue("the highest price", BAD_STATE, () -> plan.next(100000));
            throwsDue("once more", BAD_STATE, () -> plan.next(100));
        });
        sentence("month: NONE if none has begun.", () -> {
            LookbackPlan plan = new LookbackPlan();
            due("none", plan.month(), LookbackPlan.NONE);
            throwsDue("a refused month", BAD_ARGUMENT, () -> plan.next(0));
            due("still none", plan.month(), LookbackPlan.NONE);
            plan.next(100);
            due("the first", plan.month(), 0);
            begin(plan, 59, 100);
            due("the last", plan.month(), 59);
        });
        sentence("ceiling: cents: 0 to 10000000.", () ->
            inRange(0, 10000000, cents -> new LookbackPlan().ceiling(cents)));
        sentence("ceiling: Returns the ceiling before.", () -> {
            LookbackPlan plan = new LookbackPlan();
            due("the first", plan.ceiling(0), 2500000);
            due("the lowest", plan.ceiling(10000000), 0);
            throwsDue("a refused one", BAD_ARGUMENT, () -> plan.ceiling(10000001));
            due("the highest", plan.ceiling(1), 10000000);
        });
        sentence("Sets the ceiling, for purchases that come.", () -> {
            LookbackPlan before = started(10, 100);
            before.slip(0, 10000);
            begin(before, 5, 100);
            before.ceiling(0);
            before.next(100);
            due("set in the purchase month", before.shares(0), 0);
            LookbackPlan after = elevenShares(0);
            after.ceiling(0);
            due("set right after its end", after.shares(0), 11);
            due("counted stays", after.counted(0, 0), 1100);
        });
    }

    // ---- Promises 5 to 12

    private static void promisesOfMembers() {
        sentence("join: rate: 1 to 15.", () -> {
            LookbackPlan plan = new LookbackPlan();
            plan.next(100);
            inRange(1, 15, plan::join);
        });
        sentence("join: Throws IllegalStateException if no month has begun.", () -> {
            LookbackPlan plan = new LookbackPlan();
            throwsDue("no month", BAD_STATE, () -> plan.join(1));
            plan.next(100);
            due("the first month", plan.join(1), 0);
        });
        sentence("join: Throws IllegalStateException if there are 6 members.", () -> {
            LookbackPlan plan = started(10, 100);
            for (int member = 1; member <= 4; member++) {
                plan.join(10);
            }
            due("the sixth", plan.join(10), 5);
            throwsDue("the seventh", BAD_STATE, () -> plan.join(1));
            throwsDue("the seventh", BAD_STATE, () -> plan.join(15));
        });
        sentence("rate: rate: 1 to 15.", () -> {
            LookbackPlan plan = started(10, 100);
            inRange(1, 15, rate -> plan.rate(0, rate));
        });
        sentence("Gives a member another rate, for slips that come. Returns the rate before.", () -> {
            LookbackPlan plan = started(15, 100);
            plan.slip(0, 1000);
            due("the highest", plan.rate(0, 1), 15);
            due("the lowest", plan.rate(0, 1), 1);
            throwsDue("a refused one", BAD_ARGUMENT, () -> plan.rate(0, 0));
            due("a slip before stays, one that comes", plan.slip(0, 1000) + plan.money(0), 10 + 160);
        });
        sentence("rate: Throws IllegalStateException if the member has left.", () -> {
            LookbackPlan plan = oneLeft();
            throwsDue("the lowest", BAD_STATE, () -> plan.rate(0, 1));
            throwsDue("the highest", BAD_STATE, () -> plan.rate(0, 15));
        });
        sentence("slip: gross: 0 to 5000000.", () -> {
            LookbackPlan plan = started(10, 100);
            inRange(0, 5000000, gross -> plan.slip(0, gross));
        });
        sentence("slip: Throws IllegalStateException if the member has left.", () -> {
            LookbackPlan plan = oneLeft();
            throwsDue("the lowest", BAD_STATE, () -> plan.slip(0, 0));
            throwsDue("the highest", BAD_STATE, () -> plan.slip(0, 5000000));
        });
        sentence("leave: the money is given back, shares stay. Returns the money.", () -> {
            due("no money", started(10, 100).leave(0), 0);
            due("one cent", withMoney(1, 1000).leave(0), 1);
            LookbackPlan rich = elevenShares(0);
            due("what a purchase left", rich.leave(0), 1000 - 11 * 85);
            due("the shares", rich.shares(0), 11);
            begin(rich, 6, 100);
            due("the shares", rich.shares(0), 11);
        });
        sentence("leave: Throws IllegalStateException if the member has left already.", () -> {
            LookbackPlan plan = oneLeft();
            throwsDue("at once", BAD_STATE, () -> plan.leave(0));
            begin(plan, 6, 100);
            throwsDue("later", BAD_STATE, () -> plan.leave(0));
        });
        sentence("money: Returns the cents; 0 if the member has left.", () -> {
            due("none at first", started(10, 100).money(0), 0);
            LookbackPlan plan = withMoney(849, 1000);
            due("the cents", plan.money(0), 849);
            plan.leave(0);
            due("has left", plan.money(0), 0);
        });
        sentence("offerMonth: Returns the month, the last one of a member who has left.", () -> {
            LookbackPlan plan = started(10, 1000);
            begin(plan, 6, 900);
            plan.leave(0);
            due("right after", plan.offerMonth(0), 5);
            begin(plan, 53, 1);
            due("in month 59", plan.offerMonth(0), 5);
            due("the price too", plan.offerPrice(0), 900);
            LookbackPlan purchaseMonth = started(10, 1000);
            begin(purchaseMonth, 5, 900);
            purchaseMonth.leave(0);
            purchaseMonth.next(900);
            due("left in the purchase month", purchaseMonth.offerMonth(0), 0);
        });
        sentence("resets: how many offers began anew because the price had fallen.", () -> {
            due("none", started(10, 1000).resets(0), 0);
            LookbackPlan each = started(10, 1000);
            for (int month = 1; month <= 59; month++) {
                each.next(1000 - month);
            }
            due("at each of the nine purchases", each.resets(0), 9);
            LookbackPlan same = started(10, 1000);
            begin(same, 59, 1000);
            due("the fourth times alone are none", same.resets(0), 0);
            due("though offers began anew", same.offerMonth(0), 47);
            LookbackPlan left = started(10, 1000);
            begin(left, 6, 900);
            left.leave(0);
            begin(left, 6, 800);
            due("of a member who has left", left.resets(0), 1);
        });
        sentence("(Also if it was the fourth time, too.)", () -> {
            LookbackPlan plan = started(10, 1000);
            begin(plan, 22, 1000);
            begin(plan, 1, 999);
            due("ahead of the fourth", plan.resets(0), 0);
            plan.next(999);
            due("the fourth", plan.resets(0), 1);
            due("one new offer", plan.offerMonth(0), 23);
            begin(plan, 18, 999);
            due("its purchases are counted from 0", plan.offerMonth(0), 23);
            begin(plan, 6, 999);
            due("its fourth", plan.offerMonth(0), 47);
        });
    }

    // ---- Promises 13 to 18

    private static void promisesOfShares() {
        sentence("shares: Returns how many shares a member has.", () -> {
            due("none", started(10, 100).shares(0), 0);
            LookbackPlan plan = elevenShares(0);
            plan.sell(0, 10);
            due("the last one", plan.shares(0), 1);
            plan.sell(0, 1);
            due("none any more", plan.shares(0), 0);
        });
        sentence("bought: month: 0 to 59; Throws IndexOutOfBoundsException if there is no such month.", () -> {
            LookbackPlan plan = elevenShares(0);
            due("the first month", plan.bought(0, 0), 0);
            due("the last month", plan.bought(0, 59), 0);
            badIndexes(new int[] {-1, 60}, month -> plan.bought(0, month));
        });
        sentence("bought: Returns the shares, sold ones too; 0 if there is no such lot.", () -> {
            LookbackPlan plan = elevenShares(0);
            due("ahead of the month", plan.bought(0, 4), 0);
            due("the month", plan.bought(0, 5), 11);
            due("behind the month", plan.bought(0, 6), 0);
            due("a purchase month that has not come", plan.bought(0, 53), 0);
            plan.sell(0, 11);
            due("all sold", plan.bought(0, 5), 11);
            begin(plan, 6, 1000);
            due("a purchase of none", plan.bought(0, 11), 0);
        });
        sentence("paidEach: Throws IndexOutOfBoundsException if there is no such month.", () -> {
            LookbackPlan plan = elevenShares(0);
            due("the first month", plan.paidEach(0, 0), LookbackPlan.NONE);
            due("the last month", plan.paidEach(0, 59), LookbackPlan.NONE);
            badIndexes(new int[] {-1, 60}, month -> plan.paidEach(0, month));
        });
        sentence("paidEach: Returns the price; NONE if there is no such lot.", () -> {
            LookbackPlan plan = elevenShares(0);
            due("ahead of the month", plan.paidEach(0, 4), LookbackPlan.NONE);
            due("the month", plan.paidEach(0, 5), 85);
            due("behind the month", plan.paidEach(0, 6), LookbackPlan.NONE);
            due("a purchase month that has not come", plan.paidEach(0, 53), LookbackPlan.NONE);
            plan.sell(0, 11);
            due("all sold", plan.paidEach(0, 5), 85);
        });
        sentence("counted: year: 0 to 4; Throws IndexOutOfBoundsException if there is no such year.", () -> {
            LookbackPlan plan = elevenShares(0);
            due("the first year", plan.counted(0, 0), 1100);
            due("the last year", plan.counted(0, 4), 0);
            badIndexes(new int[] {-1, 5}, year -> plan.counted(0, year));
        });
        sentence("counted: Returns the sum of their first prices.", () -> {
            due("no shares", withMoney(849, 1000).counted(0, 0), 0);
            due("one share", withMoney(850, 1000).counted(0, 0), 1000);
            LookbackPlan sold = elevenShares(0);
            sold.sell(0, 11);
            due("all sold", sold.counted(0, 0), 1100);
            begin(sold, 5, 100);
            sold.slip(0, 10000);
            sold.next(100);
            due("two purchases of a year", sold.counted(0, 0), 2300);
        });
        sentence("traced: all that a member spent, and the money, and what was given back, together.", () -> {
            due("nothing", started(10, 100).traced(0), 0);
            due("money alone", withMoney(849, 1000).traced(0), 849);
            due("all spent", withMoney(850, 1000).traced(0), 850);
            LookbackPlan plan = withMoney(851, 1000);
            due("spent, and money", plan.traced(0), 851);
            plan.leave(0);
            due("spent, and given back", plan.traced(0), 851);
            plan.sell(0, 1);
            due("all sold", plan.traced(0), 851);
        });
        sentence("kept: Returns the same by the slips alone: all that was kept of them.", () -> {
            due("nothing", started(10, 100).kept(0), 0);
            LookbackPlan plan = withMoney(851, 1000);
            plan.slip(0, 0);
            plan.slip(0, 99);
            due("nothing of two more slips", plan.kept(0), 851);
            plan.leave(0);
            due("has left", plan.kept(0), 851);
        });
    }

    // ---- Promises 19 to 22

    private static void promisesOfSales() {
        sentence("sell: shares: 1 to 1000000.", () -> {
            LookbackPlan plan = tenMillionShares(1);
            inRange(1, 1000000, shares -> plan.sell(0, shares));
        });
        sentence("sell: Throws IllegalStateException if the member has fewer shares.", () -> {
            LookbackPlan none = started(10, 100);
            throwsDue("one of none", BAD_STATE, () -> none.sell(0, 1));
            throwsDue("the most of none", BAD_STATE, () -> none.sell(0, 1000000));
            LookbackPlan plan = elevenShares(0);
            throwsDue("one more than all", BAD_STATE, () -> plan.sell(0, 12));
            due("all but one", plan.sell(0, 10), 10);
            throwsDue("two of one", BAD_STATE, () -> plan.sell(0, 2));
            due("the last", plan.sell(0, 1), 1);
            throwsDue("one of none any more", BAD_STATE, () -> plan.sell(0, 1));
            LookbackPlan two = twoLots();
            throwsDue("one more than both lots", BAD_STATE, () -> two.sell(0, 24));
            LookbackPlan other = elevenShares(0);
            other.join(10);
            throwsDue("another member's shares", BAD_STATE, () -> other.sell(1, 1));
        });
        sentence("sell: Returns how many of them are sold early.", () -> {
            due("all", elevenShares(0).sell(0, 11), 11);
            LookbackPlan late = elevenShares(0);
            begin(late, 18, 100);
            due("none", late.sell(0, 11), 0);
            due("some", twoLots().sell(0, 13), 2);
        });
        sentence("pay: Returns the pay of all sales of a member so far.", () -> {
            due("no sale", elevenShares(0).pay(0), 0);
            LookbackPlan plan = twoLots();
            plan.sell(0, 10);
            due("late ones", plan.pay(0), 10 * 15);
            plan.sell(0, 2);
            due("one late, one early", plan.pay(0), 12 * 15);
            throwsDue("a refused sale", BAD_STATE, () -> plan.sell(0, 12));
            due("a refused sale", plan.pay(0), 12 * 15);
        });
        sentence("gain: Returns the cents, perhaps below 0.", () -> {
            due("no sale", elevenShares(0).gain(0), 0);
            LookbackPlan plan = elevenShares(0);
            plan.next(99);
            plan.sell(0, 2);
            due("below 0", plan.gain(0), -2);
            plan.next(102);
            plan.sell(0, 1);
            due("0 together", plan.gain(0), 0);
        });
        sentence("gainNow: what all shares of a member would bring as gain if they were sold now.", () -> {
            due("no shares", started(10, 100).gainNow(0), 0);
            LookbackPlan plan = elevenShares(0);
            begin(plan, 17, 200);
            due("in the last early month", plan.gainNow(0), 11 * (200 - 100));
            plan.next(200);
            due("in the first late month", plan.gainNow(0), 11 * (200 - 85 - 15));
            plan.next(84);
            due("below 0, late", plan.gainNow(0), -11);
            plan.sell(0, 10);
            due("the last share", plan.gainNow(0), -1);
            plan.sell(0, 1);
            due("all sold", plan.gainNow(0), 0);
            LookbackPlan rebate = started(10, 200);
            rebate.slip(0, 10000);
            begin(rebate, 5, 180);
            rebate.next(1);
            due("below 0, early", rebate.gainNow(0), 6 * (1 - 180));
        });
    }

    /** The same sentence stands at 17 calls, and each has its test. */
    private static void noSuchMember() {
        noSuchMember("rate", (plan, member) -> plan.rate(member, 10));
        noSuchMember("slip", (plan, member) -> plan.slip(member, 1000));
        noSuchMember("leave", (plan, member) -> plan.leave(member));
        noSuchMember("money", (plan, member) -> plan.money(member));
        noSuchMember("offerMonth", (plan, member) -> plan.offerMonth(member));
        noSuchMember("offerPrice", (plan, member) -> plan.offerPrice(member));
        noSuchMember("resets", (plan, member) -> plan.resets(member));
        noSuchMember("shares", (plan, member) -> plan.shares(member));
        noSuchMember("bought", (plan, member) -> plan.bought(member, 5));
        noSuchMember("paidEach", (plan, member) -> plan.paidEach(member, 5));
        noSuchMember("counted", (plan, member) -> plan.counted(member, 0));
        noSuchMember("traced", (plan, member) -> plan.traced(member));
        noSuchMember("kept", (plan, member) -> plan.kept(member));
        noSuchMember("sell", (plan, member) -> plan.sell(member, 1));
        noSuchMember("pay", (plan, member) -> plan.pay(member));
        noSuchMember("gain", (plan, member) -> plan.gain(member));
        noSuchMember("gainNow", (plan, member) -> plan.gainNow(member));
    }

    private static void noSuchMember(String name, MemberCall call) {
        sentence(name + ": Throws IndexOutOfBoundsException if there is no such member.", () -> {
            LookbackPlan fresh = new LookbackPlan();
            badIndexes(new int[] {0}, member -> call.run(fresh, member));
            LookbackPlan one = elevenShares(0);
            dueText("member 0 of one", answer(() -> call.run(one, 0)).replaceAll("[-0-9]", ""), "");
            badIndexes(new int[] {-1, 1, 5, 6}, member -> call.run(one, member));
            LookbackPlan full = full();
            for (int member = 0; member <= 5; member++) {
                int known = member;
                dueText("member " + member + " of six", answer(() -> call.run(full, known)).replaceAll("[-0-9]", ""), "");
            }
            badIndexes(new int[] {-1, 6, 7}, member -> call.run(full, member));
        });
    }

    private static void sumsBeyondAnInt() {
        sentence("long pay: the sum of all sales", () -> {
            LookbackPlan plan = tenMillionShares(100000);
            plan.sell(0, 1000000);
            due("of one sale", plan.pay(0), 99999000000L);
            plan.sell(0, 1000000);
            due("of two sales", plan.pay(0), 199998000000L);
        });
        sentence("long gain: the sum of all sales", () -> {
            LookbackPlan below = tenMillionShares(100000);
            below.next(1);
            below.sell(0, 1000000);
            below.sell(0, 1000000);
            due("far below 0", below.gain(0), -199998000000L);
            LookbackPlan above = tenMillionShares(1);
            above.next(100000);
            above.sell(0, 1000000);
            above.sell(0, 1000000);
            due("far above 0", above.gain(0), 199998000000L);
            begin(above, 17, 100000);
            due("late", above.sell(0, 1000000), 0);
            due("far above 0, late", above.gain(0), 299997000000L);
        });
        sentence("long gainNow: what all shares would bring", () -> {
            LookbackPlan below = tenMillionShares(100000);
            below.next(1);
            due("far below 0", below.gainNow(0), -999990000000L);
            LookbackPlan above = tenMillionShares(1);
            above.next(100000);
            due("far above 0", above.gainNow(0), 999990000000L);
        });
        sentence("The most shares that there can be: a whole ceiling of shares of 1 in each year.", () -> {
            LookbackPlan plan = started(15, 1);
            plan.ceiling(10000000);
            for (int i = 0; i < 68; i++) {
                plan.slip(0, 5000000);
            }
            begin(plan, 54, 1);
            due("shares", plan.shares(0), 50000000);
            due("money", plan.money(0), 1000000);
            due("counted in the last year", plan.counted(0, 4), 10000000);
            begin(plan, 5, 100000);
            // 40 million are late; the 10 million of month 53 are early, and month 53 had the price 1.
            due("gain of all", plan.gainNow(0), 50000000L * 99999);
            due("traced", plan.traced(0), 51000000);
        });
    }

    // ---- checks of many numbers

    /** Both ends are taken, and the numbers beyond them are refused. */
    private static void inRange(int low, int high, NumberCall call) {
        for (int number : new int[] {low, high}) {
            dueText("" + number, answer(() -> call.run(number)).replaceAll("[-0-9]", ""), "");
        }
        for (int number : new int[] {low - 1, high + 1, -low - 1, Integer.MIN_VALUE, Integer.MAX_VALUE}) {
            throwsDue("" + number, BAD_ARGUMENT, () -> call.run(number));
        }
    }

    private static void badIndexes(int[] indexes, NumberCall call) {
        for (int index : indexes) {
            throwsDue("" + index, BAD_INDEX, () -> call.run(index));
        }
        throwsDue("the lowest int", BAD_INDEX, () -> call.run(Integer.MIN_VALUE));
        throwsDue("the highest int", BAD_INDEX, () -> call.run(Integer.MAX_VALUE));
    }

    // ---- plans of these tests

    /** In the month after this one, in which the member joined with the money for one share of 100. */
    private static LookbackPlan oneShareOf(int month) {
        LookbackPlan plan = joinedIn(month, 10, 100);
        plan.slip(0, 1000);
        plan.next(100);
        return plan;
    }

    /** In month 6, after a purchase with this money, at this price. */
    private static LookbackPlan withMoney(int cents, int price) {
        LookbackPlan plan = started(1, price);
        plan.slip(0, 100 * cents);
        begin(plan, 6, price);
        return plan;
    }

    /** The shares that are bought in month 11 under the second ceiling, after month 5 under the first. */
    private static int secondOfYear(int ceiling, int second) {
        LookbackPlan plan = bought(10, 1000, ceiling, 1000);
        plan.ceiling(second);
        begin(plan, 6, 1000);
        due("the lot before stays", plan.bought(0, 5), ceiling / 1000);
        return plan.bought(0, 11);
    }

    /** The first month of the offer after the purchase of month 5. */
    private static int offerAfter(int first, int inPurchaseMonth) {
        LookbackPlan plan = started(10, first);
        begin(plan, 4, first);
        begin(plan, 2, inPurchaseMonth);
        return plan.offerMonth(0);
    }

    /** In month 24, with 11 late shares of month 5 and 12 early ones of month 17, for 85 each. */
    private static LookbackPlan twoLots() {
        LookbackPlan plan = elevenShares(0);
        begin(plan, 11, 100);
        plan.slip(0, 10000);
        begin(plan, 7, 100);
        return plan;
    }

    /** In month 59, with one share of each purchase month; the last one's offer began in month 47. */
    private static LookbackPlan nineLots() {
        LookbackPlan plan = started(10, 100);
        for (int month = 1; month <= 59; month++) {
            plan.slip(0, month % 6 == 0 ? 850 : 0);
            plan.next(100);
        }
        due("shares", plan.shares(0), 9);
        return plan;
    }

    /** In month 18, with 11 shares of month 17. */
    private static LookbackPlan boughtIn17(int joined) {
        LookbackPlan plan = joinedIn(joined, 10, 100);
        begin(plan, 17 - joined, 100);
        plan.slip(0, 10000);
        plan.next(100);
        return plan;
    }

    private static LookbackPlan soldEarly(int first, int inPurchaseMonth, int now) {
        LookbackPlan plan = started(10, first);
        plan.slip(0, 10000);
        begin(plan, 5, inPurchaseMonth);
        plan.next(now);
        due("early", plan.sell(0, 1), 1);
        return plan;
    }

    private static long earlyPay(int first, int inPurchaseMonth, int now) {
        return soldEarly(first, inPurchaseMonth, now).pay(0);
    }

    private static long earlyGain(int first, int inPurchaseMonth, int now) {
        return soldEarly(first, inPurchaseMonth, now).gain(0);
    }

    private static LookbackPlan oneLeft() {
        LookbackPlan plan = started(10, 100);
        plan.leave(0);
        return plan;
    }

    /** In month 6, with six members who have 11 shares each. */
    private static LookbackPlan full() {
        LookbackPlan plan = started(10, 100);
        plan.slip(0, 10000);
        for (int member = 1; member <= 5; member++) {
            plan.join(10);
            plan.slip(member, 10000);
        }
        begin(plan, 6, 100);
        return plan;
    }

    /** In month 6, with shares for 1 each; the purchase month had this price. */
    private static LookbackPlan tenMillionShares(int inPurchaseMonth) {
        LookbackPlan plan = started(15, 1);
        plan.ceiling(10000000);
        for (int i = 0; i < 14; i++) {
            plan.slip(0, 5000000);
        }
        begin(plan, 6, inPurchaseMonth);
        due("shares", plan.shares(0), 10000000);
        return plan;
    }
}
