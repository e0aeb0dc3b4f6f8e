/**
 * A share plan for staff: part of each pay slip is kept, twice a year shares are bought at the
 * lower of two prices, less a rebate, and what is sold is parted into pay and gain.
 *
 * <p>Money is in cents throughout; months count from 0.
 */
public final class LookbackPlan {
    public static final int NONE = -1;

    private static final int MONTHS = 60;
    private static final int MONTHS_OF_YEAR = 12;
    private static final int MONTHS_OF_PURCHASE = 6;
    private static final int YEARS = MONTHS / MONTHS_OF_YEAR;
    private static final int LOTS = MONTHS / MONTHS_OF_PURCHASE;
    private static final int MAX_MEMBERS = 6;

    private static final int MAX_PRICE = 100000;
    private static final int MAX_CEILING = 10000000;
    private static final int FIRST_CEILING = 2500000;
    private static final int MAX_RATE = 15;
    private static final int MAX_GROSS = 5000000;
    private static final int MAX_SALE = 1000000;

    private static final int HUNDREDTHS = 100;
    private static final int PAID_HUNDREDTHS = 85;
    private static final int LATE_PAY_HUNDREDTHS = 15;
    private static final int PURCHASES_OF_OFFER = 4;
    private static final int LATE_AFTER_OFFER = 24;
    private static final int LATE_AFTER_PURCHASE = 12;

    /** Filled from the front; null where no member has joined yet. */
    private final Member[] members;
    private int memberCount;
    private int month;
    private int priceNow;
    private int ceiling;

    public LookbackPlan() {
        members = new Member[MAX_MEMBERS];
        memberCount = 0;
        month = NONE;
        priceNow = 0;
        ceiling = FIRST_CEILING;
    }

    // ---- months

    public int next(int price) throws IllegalArgumentException, IllegalStateException {
        if (price < 1 || price > MAX_PRICE) {
            throw new IllegalArgumentException("the price is out of its range");
        }
        if (month >= MONTHS - 1) {
            throw new IllegalStateException("the last month has begun already");
        }
        if (isPurchaseMonth(month)) {
            buyForAll();
        }
        month++;
        priceNow = price;
        return month;
    }

    public int month() {
        return month;
    }

    public int ceiling(int cents) throws IllegalArgumentException {
        if (cents < 0 || cents > MAX_CEILING) {
            throw new IllegalArgumentException("the ceiling is out of its range");
        }
        int before = ceiling;
        ceiling = cents;
        return before;
    }

    // ---- members

    public int join(int rate) throws IllegalArgumentException, IllegalStateException {
        refuseBadRate(rate);
        if (month == NONE) {
            throw new IllegalStateException("no month has begun");
        }
        int number = memberCount;
        if (number < 0 || number >= members.length) {
            throw new IllegalStateException("the plan is full");
        }
        members[number] = new Member(rate, month, priceNow);
        memberCount++;
        return number;
    }

    public int rate(int member, int rate)
            throws IndexOutOfBoundsException, IllegalArgumentException, IllegalStateException {
        Member found = memberOrThrow(member);
        refuseBadRate(rate);
        refuseLeft(found);
        int before = found.rate;
        found.rate = rate;
        return before;
    }

    public int slip(int member, int gross)
            throws IndexOutOfBoundsException, IllegalArgumentException, IllegalStateException {
        Member found = memberOrThrow(member);
        if (gross < 0 || gross > MAX_GROSS) {
            throw new IllegalArgumentException("the gross is out of its range");
        }
        refuseLeft(found);
        return found.takeSlip(gross);
    }

    public int leave(int member) throws IndexOutOfBoundsException, IllegalStateException {
        Member found = memberOrThrow(member);
        refuseLeft(found);
        return (int) found.giveBack();
    }

    public int money(int member) throws IndexOutOfBoundsException {
        return (int) memberOrThrow(member).money;
    }

    public int offerMonth(int member) throws IndexOutOfBoundsException {
        return memberOrThrow(member).offerMonth;
    }

    public int offerPrice(int member) throws IndexOutOfBoundsException {
        return memberOrThrow(member).offerPrice;
    }

    public int resets(int member) throws IndexOutOfBoundsException {
        return memberOrThrow(member).resets;
    }

    // ---- shares

    public int shares(int member) throws IndexOutOfBoundsException {
        return memberOrThrow(member).sharesHeld();
    }

    public int bought(int member, int month) throws IndexOutOfBoundsException {
        Member found = memberOrThrow(member);
        refuseBadMonth(month);
        Lot lot = found.lotOf(month);
        return lot == null ? 0 : lot.bought;
    }

    public int paidEach(int member, int month) throws IndexOutOfBoundsException {
        Member found = memberOrThrow(member);
        refuseBadMonth(month);
        Lot lot = found.lotOf(month);
        return lot == null ? NONE : lot.paidEach;
    }

    public long counted(int member, int year) throws IndexOutOfBoundsException {
        Member found = memberOrThrow(member);
        if (year < 0 || year >= YEARS) {
            throw new IndexOutOfBoundsException("there is no such year");
        }
        return found.countedIn(year);
    }

    public long traced(int member) throws IndexOutOfBoundsException {
        Member found = memberOrThrow(member);
        return found.spent + found.money + found.givenBack;
    }

    public long kept(int member) throws IndexOutOfBoundsException {
        return memberOrThrow(member).keptOfSlips;
    }

    // ---- sales

    public int sell(int member, int shares)
            throws IndexOutOfBoundsException, IllegalArgumentException, IllegalStateException {
        Member found = memberOrThrow(member);
        if (shares < 1 || shares > MAX_SALE) {
            throw new IllegalArgumentException("the number of shares is out of its range");
        }
        if (found.sharesHeld() < shares) {
            throw new IllegalStateException("the member has fewer shares");
        }
        return found.sellOldest(shares, month, priceNow);
    }

    public long pay(int member) throws IndexOutOfBoundsException {
        return memberOrThrow(member).payOfSales;
    }

    public long gain(int member) throws IndexOutOfBoundsException {
        return memberOrThrow(member).gainOfSales;
    }

    public long gainNow(int member) throws IndexOutOfBoundsException {
        return memberOrThrow(member).gainIfAllSold(month, priceNow);
    }

    // ---- what the calls above share

    private Member memberOrThrow(int member) {
        if (member < 0 || member >= members.length) {
            throw new IndexOutOfBoundsException("there is no such member");
        }
        Member found = members[member];
        if (found == null) {
            throw new IndexOutOfBoundsException("there is no such member");
        }
        return found;
    }

    private static void refuseBadRate(int rate) {
        if (rate < 1 || rate > MAX_RATE) {
            throw new IllegalArgumentException("the rate is out of its range");
        }
    }

    private static void refuseBadMonth(int month) {
        if (month < 0 || month >= MONTHS) {
            throw new IndexOutOfBoundsException("there is no such month");
        }
    }

    private static void refuseLeft(Member member) {
        if (member.hasLeft) {
            throw new IllegalStateException("the member has left");
        }
    }

    /** NONE is no purchase month either: its remainder is below 0. */
    private static boolean isPurchaseMonth(int month) {
        return month % MONTHS_OF_PURCHASE == MONTHS_OF_PURCHASE - 1;
    }

    private void buyForAll() {
        for (int i = 0; i < members.length; i++) {
            Member member = members[i];
            if (member != null && !member.hasLeft) {
                member.buyShares(month, priceNow, ceiling);
            }
        }
    }

    /** One who has joined, with the offer of now, the lots and the sums of all that happened. */
    private static final class Member {
        /** One place for each purchase month; null where there is no lot. */
        private final Lot[] lots;
        private final long[] countedByYear;

        private int rate;
        private boolean hasLeft;

        private long money;
        private long spent;
        private long givenBack;
        private long keptOfSlips;

        private int offerMonth;
        private int offerPrice;
        private int offerPurchases;
        private int resets;

        private long payOfSales;
        private long gainOfSales;

        private Member(int rate, int month, int price) {
            this.lots = new Lot[LOTS];
            this.countedByYear = new long[YEARS];
            this.rate = rate;
            this.offerMonth = month;
            this.offerPrice = price;
        }

        private int takeSlip(int gross) {
            int part = gross * rate / HUNDREDTHS;
            money += part;
            keptOfSlips += part;
            return part;
        }

        private long giveBack() {
            long back = money;
            givenBack += back;
            money = 0;
            hasLeft = true;
            return back;
        }

        private void buyShares(int month, int price, int ceiling) {
            int year = month / MONTHS_OF_YEAR;
            int each = purchasePrice(Math.min(offerPrice, price));
            long payable = wholeTimes(money, each);
            long underCeiling = wholeTimes(ceiling - countedIn(year), offerPrice);
            int count = (int) Math.min(payable, underCeiling);
            if (count > 0) {
                putLot(new Lot(month, price, each, offerMonth, offerPrice, count));
                addCounted(year, (long) count * offerPrice);
                money -= (long) count * each;
                spent += (long) count * each;
            }
            offerPurchases++;
            renewOffer(month, price);
        }

        private void renewOffer(int month, int price) {
            boolean fallen = price < offerPrice;
            if (fallen) {
                resets++;
            }
            if (fallen || offerPurchases >= PURCHASES_OF_OFFER) {
                offerMonth = month;
                offerPrice = price;
                offerPurchases = 0;
            }
        }

        private static int purchasePrice(int lowerPrice) {
            return (lowerPrice * PAID_HUNDREDTHS + HUNDREDTHS - 1) / HUNDREDTHS;
        }

        /** The amount is below 0 when the ceiling was set below what counts already. */
        private static long wholeTimes(long amount, long each) {
            return amount <= 0 || each <= 0 ? 0 : amount / each;
        }

        private long countedIn(int year) {
            return year < 0 || year >= countedByYear.length ? 0 : countedByYear[year];
        }

        private void addCounted(int year, long cents) {
            if (year >= 0 && year < countedByYear.length) {
                countedByYear[year] += cents;
            }
        }

        private Lot lotOf(int month) {
            if (!isPurchaseMonth(month)) {
                return null;
            }
            int place = month / MONTHS_OF_PURCHASE;
            return place < 0 || place >= lots.length ? null : lots[place];
        }

        private void putLot(Lot lot) {
            int place = lot.month / MONTHS_OF_PURCHASE;
            if (place >= 0 && place < lots.length) {
                lots[place] = lot;
            }
        }

        private int sharesHeld() {
            int held = 0;
            for (int i = 0; i < lots.length; i++) {
                Lot lot = lots[i];
                if (lot != null) {
                    held += lot.left;
                }
            }
            return held;
        }

        /** Returns how many of the shares are sold early. */
        private int sellOldest(int count, int now, int price) {
            int early = 0;
            int open = count;
            for (int i = 0; i < lots.length; i++) {
                Lot lot = lots[i];
                if (lot != null) {
                    int sold = Math.min(open, lot.left);
                    payOfSales += sold * lot.payEach(now, price);
                    gainOfSales += sold * lot.gainEach(now, price);
                    early += lot.isEarly(now) ? sold : 0;
                    lot.left -= sold;
                    open -= sold;
                }
            }
            return early;
        }

        private long gainIfAllSold(int now, int price) {
            long sum = 0;
            for (int i = 0; i < lots.length; i++) {
                Lot lot = lots[i];
                if (lot != null) {
                    sum += lot.left * lot.gainEach(now, price);
                }
            }
            return sum;
        }
    }

    /** The shares that one member bought at the end of one month, and by which offer. */
    private static final class Lot {
        private final int month;
        private final int monthPrice;
        private final int paidEach;
        private final int offerMonth;
        private final int offerPrice;
        private final int bought;
        private int left;

        private Lot(int month, int monthPrice, int paidEach, int offerMonth, int offerPrice, int bought) {
            this.month = month;
            this.monthPrice = monthPrice;
            this.paidEach = paidEach;
            this.offerMonth = offerMonth;
            this.offerPrice = offerPrice;
            this.bought = bought;
            this.left = bought;
        }

        private boolean isEarly(int now) {
            return now - offerMonth < LATE_AFTER_OFFER || now - month < LATE_AFTER_PURCHASE;
        }

        private long payEach(int now, int price) {
            if (isEarly(now)) {
                return monthPrice - paidEach;
            }
            int most = offerPrice * LATE_PAY_HUNDREDTHS / HUNDREDTHS;
            return Math.max(0, Math.min(most, price - paidEach));
        }

        private long gainEach(int now, int price) {
            return price - paidEach - payEach(now, price);
        }
    }
}
