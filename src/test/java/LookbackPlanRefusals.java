import java.util.ArrayList;
import java.util.List;
import java.util.function.Consumer;
import java.util.function.Supplier;

/**
 * "A call that throws changes nothing": of two plans that went through the same, one takes a call
 * that throws; then both answer the same, at once and after more months, slips and sales.
 */
public final class LookbackPlanRefusals extends PlanTest {
    private record Refusal(String name, String exception, Consumer<LookbackPlan> call) {}

    private static final int[] WRONG_INDEXES = {-1, 6, Integer.MIN_VALUE, Integer.MAX_VALUE};

    public static void main(String[] args) {
        List<Refusal> anywhere = wrongIndexes();
        anywhere.addAll(wrongArguments());
        changeNothing("no month", LookbackPlan::new, anywhere, noMonth());
        changeNothing("no member", LookbackPlanRefusals::noMember, anywhere, member(0));
        changeNothing("a purchase month", LookbackPlanRefusals::purchaseMonth, anywhere,
                member(2), wrongOfMember(0), ofOneWhoLeft(1), sales(0, 1));
        changeNothing("six members", LookbackPlanRefusals::sixMembers, anywhere,
                sixth(), wrongOfMember(0), ofOneWhoLeft(1), sales(0, 12), sales(2, 12));
        changeNothing("month 59", LookbackPlanRefusals::lastMonth, anywhere,
                last(), wrongOfMember(0), ofOneWhoLeft(1), sales(0, 23), sales(1, 12));
        finish();
    }

    @SafeVarargs
    private static void changeNothing(String stage, Supplier<LookbackPlan> made, List<Refusal>... lists) {
        for (List<Refusal> list : lists) {
            for (Refusal refusal : list) {
                sentence("A call that throws changes nothing: " + refusal.name() + ", " + stage,
                        () -> changesNothing(made, refusal));
            }
        }
    }

    private static void changesNothing(Supplier<LookbackPlan> made, Refusal refusal) {
        LookbackPlan at = refused(made.get(), refusal);
        dueText("all answers at once", answers(at), answers(made.get()));
        LookbackPlan later = refused(made.get(), refusal);
        dueText("all answers later", goneOn(later), goneOn(made.get()));
    }

    private static LookbackPlan refused(LookbackPlan plan, Refusal refusal) {
        throwsDue(refusal.name(), refusal.exception(), () -> {
            refusal.call().accept(plan);
            return 0;
        });
        return plan;
    }

    // ---- the refusals

    private static List<Refusal> wrongIndexes() {
        List<Refusal> list = new ArrayList<>();
        for (int member : WRONG_INDEXES) {
            list.addAll(member(member));
        }
        return list;
    }

    /** Of every call that takes a member. */
    private static List<Refusal> member(int member) {
        List<Refusal> list = new ArrayList<>();
        add(list, "rate of " + member, BAD_INDEX, plan -> plan.rate(member, 3));
        add(list, "slip of " + member, BAD_INDEX, plan -> plan.slip(member, 1000));
        add(list, "leave of " + member, BAD_INDEX, plan -> plan.leave(member));
        add(list, "money of " + member, BAD_INDEX, plan -> plan.money(member));
        add(list, "offerMonth of " + member, BAD_INDEX, plan -> plan.offerMonth(member));
        add(list, "offerPrice of " + member, BAD_INDEX, plan -> plan.offerPrice(member));
        add(list, "resets of " + member, BAD_INDEX, plan -> plan.resets(member));
        add(list, "shares of " + member, BAD_INDEX, plan -> plan.shares(member));
        add(list, "bought of " + member, BAD_INDEX, plan -> plan.bought(member, 5));
        add(list, "paidEach of " + member, BAD_INDEX, plan -> plan.paidEach(member, 5));
        add(list, "counted of " + member, BAD_INDEX, plan -> plan.counted(member, 0));
        add(list, "traced of " + member, BAD_INDEX, plan -> plan.traced(member));
        add(list, "kept of " + member, BAD_INDEX, plan -> plan.kept(member));
        add(list, "sell of " + member, BAD_INDEX, plan -> plan.sell(member, 1));
        add(list, "pay of " + member, BAD_INDEX, plan -> plan.pay(member));
        add(list, "gain of " + member, BAD_INDEX, plan -> plan.gain(member));
        add(list, "gainNow of " + member, BAD_INDEX, plan -> plan.gainNow(member));
        return list;
    }

    private static List<Refusal> wrongArguments() {
        List<Refusal> list = new ArrayList<>();
        for (int price : new int[] {0, 100001}) {
            add(list, "next at " + price, BAD_ARGUMENT, plan -> plan.next(price));
        }
        for (int cents : new int[] {-1, 10000001}) {
            add(list, "ceiling of " + cents, BAD_ARGUMENT, plan -> plan.ceiling(cents));
        }
        for (int rate : new int[] {0, 16}) {
            add(list, "join with " + rate, BAD_ARGUMENT, plan -> plan.join(rate));
        }
        return list;
    }

    private static List<Refusal> wrongOfMember(int member) {
        List<Refusal> list = new ArrayList<>();
        for (int rate : new int[] {0, 16}) {
            add(list, "rate of " + rate, BAD_ARGUMENT, plan -> plan.rate(member, rate));
        }
        for (int gross : new int[] {-1, 5000001}) {
            add(list, "slip of " + gross, BAD_ARGUMENT, plan -> plan.slip(member, gross));
        }
        for (int shares : new int[] {0, -1, 1000001}) {
            add(list, "sale of " + shares, BAD_ARGUMENT, plan -> plan.sell(member, shares));
        }
        for (int month : new int[] {-1, 60}) {
            add(list, "bought in " + month, BAD_INDEX, plan -> plan.bought(member, month));
            add(list, "paidEach in " + month, BAD_INDEX, plan -> plan.paidEach(member, month));
        }
        for (int year : new int[] {-1, 5}) {
            add(list, "counted in " + year, BAD_INDEX, plan -> plan.counted(member, year));
        }
        return list;
    }

    private static List<Refusal> ofOneWhoLeft(int member) {
        List<Refusal> list = new ArrayList<>();
        add(list, "rate of one who left", BAD_STATE, plan -> plan.rate(member, 3));
        add(list, "slip of one who left", BAD_STATE, plan -> plan.slip(member, 1000));
        add(list, "leave of one who left", BAD_STATE, plan -> plan.leave(member));
        return list;
    }

    private static List<Refusal> sales(int member, int tooMany) {
        List<Refusal> list = new ArrayList<>();
        add(list, "sale of one too many of " + member, BAD_STATE, plan -> plan.sell(member, tooMany));
        add(list, "sale of the most of " + member, BAD_STATE, plan -> plan.sell(member, 1000000));
        return list;
    }

    private static List<Refusal> noMonth() {
        List<Refusal> list = member(0);
        add(list, "join", BAD_STATE, plan -> plan.join(10));
        return list;
    }

    private static List<Refusal> sixth() {
        List<Refusal> list = new ArrayList<>();
        add(list, "a seventh joins", BAD_STATE, plan -> plan.join(10));
        return list;
    }

    private static List<Refusal> last() {
        List<Refusal> list = new ArrayList<>();
        add(list, "next", BAD_STATE, plan -> plan.next(90));
        return list;
    }

    private static void add(List<Refusal> list, String name, String exception, Consumer<LookbackPlan> call) {
        list.add(new Refusal(name, exception, call));
    }

    // ---- the plans

    private static LookbackPlan noMember() {
        LookbackPlan plan = new LookbackPlan();
        plan.next(100);
        return plan;
    }

    /** Shares are bought when the next month begins; member 1 has left. */
    private static LookbackPlan purchaseMonth() {
        LookbackPlan plan = started(10, 100);
        plan.join(10);
        plan.slip(0, 10000);
        plan.slip(1, 10000);
        begin(plan, 5, 90);
        plan.leave(1);
        return plan;
    }

    /** In month 6; members 0 and 2 have 11 shares, and member 1 has left with 11. */
    private static LookbackPlan sixMembers() {
        LookbackPlan plan = started(10, 100);
        for (int member = 1; member <= 5; member++) {
            plan.join(10);
        }
        for (int member = 0; member <= 2; member++) {
            plan.slip(member, 10000);
        }
        begin(plan, 6, 100);
        plan.leave(1);
        return plan;
    }

    /** Member 0 has shares of two lots and money for more, and member 1 has left with shares. */
    private static LookbackPlan lastMonth() {
        LookbackPlan plan = started(10, 100);
        plan.join(10);
        plan.slip(0, 10000);
        plan.slip(1, 10000);
        begin(plan, 6, 100);
        plan.leave(1);
        plan.slip(0, 10000);
        begin(plan, 53, 100);
        plan.slip(0, 10000);
        plan.sell(0, 1);
        due("shares of two lots", plan.shares(0), 22);
        return plan;
    }

    // ---- what two plans are compared by

    /** Of three members alone, for a plan answers no more than 512 calls. */
    private static String answers(LookbackPlan plan) {
        StringBuilder text = new StringBuilder();
        tell(text, "month", plan::month);
        for (int known = 0; known <= 2; known++) {
            int member = known;
            text.append("\n    member ").append(member).append(':');
            tell(text, "money", () -> plan.money(member));
            tell(text, "offerMonth", () -> plan.offerMonth(member));
            tell(text, "offerPrice", () -> plan.offerPrice(member));
            tell(text, "resets", () -> plan.resets(member));
            tell(text, "shares", () -> plan.shares(member));
            for (int month = 5; month <= 53; month += 6) {
                int purchase = month;
                tell(text, "bought", () -> plan.bought(member, purchase));
                tell(text, "paidEach", () -> plan.paidEach(member, purchase));
            }
            for (int number = 0; number <= 4; number++) {
                int year = number;
                tell(text, "counted", () -> plan.counted(member, year));
            }
            tell(text, "traced", () -> plan.traced(member));
            tell(text, "kept", () -> plan.kept(member));
            tell(text, "pay", () -> plan.pay(member));
            tell(text, "gain", () -> plan.gain(member));
            tell(text, "gainNow", () -> plan.gainNow(member));
        }
        return text.toString();
    }

    /** Goes on with slips, months, sales and one more member, and tells every answer. */
    private static String goneOn(LookbackPlan plan) {
        StringBuilder text = new StringBuilder();
        for (int known = 0; known <= 2; known++) {
            int member = known;
            tell(text, "slip", () -> plan.slip(member, 12345));
        }
        for (int month = 0; month < 26; month++) {
            int price = 95 - month % 7;
            tell(text, "next", () -> plan.next(price));
        }
        tell(text, "join", () -> plan.join(7));
        for (int known = 0; known <= 2; known++) {
            int member = known;
            tell(text, "rate", () -> plan.rate(member, 9));
            tell(text, "sell", () -> plan.sell(member, 2));
        }
        text.append(answers(plan));
        tell(text, "ceiling", () -> plan.ceiling(0));
        tell(text, "leave", () -> plan.leave(0));
        return text.toString();
    }

    private static void tell(StringBuilder text, String name, Call call) {
        text.append(' ').append(name).append(' ').append(answer(call));
    }
}
