/** What the tests share: checks that count what is wrong, and plans that many of them begin with. */
abstract class PlanTest {
    static final String BAD_INDEX = "IndexOutOfBoundsException";
    static final String BAD_ARGUMENT = "IllegalArgumentException";
    static final String BAD_STATE = "IllegalStateException";

    private static int wrong = 0;
    private static int sentences = 0;
    private static String words = "";

    interface Call {
        long run();
    }

    // ---- checks

    static void due(String what, long got, long want) {
        if (got != want) {
            report(what + " answered " + got + ", due is " + want);
        }
    }

    static void dueText(String what, String got, String want) {
        if (!got.equals(want)) {
            report(what + " answered " + got + ", due is " + want);
        }
    }

    static void throwsDue(String what, String exception, Call call) {
        dueText(what, answer(call), exception);
    }

    /** The number that a call answers, or the name of what it throws. */
    static String answer(Call call) {
        try {
            return Long.toString(call.run());
        } catch (RuntimeException e) {
            return e.getClass().getSimpleName();
        }
    }

    /** Runs the test of one sentence of the document; what fails in it is told with the sentence. */
    static void sentence(String ofDocument, Runnable test) {
        words = ofDocument;
        sentences++;
        try {
            test.run();
        } catch (RuntimeException e) {
            report("the test ended with " + e);
        }
        words = "";
    }

    static void finish() {
        if (wrong != 0) {
            System.out.println(wrong + " answers are not as due");
            System.exit(1);
        }
        System.out.println(sentences == 0 ? "all promises hold" : "all " + sentences + " tests of sentences hold");
    }

    private static void report(String what) {
        wrong++;
        String where = "";
        for (StackTraceElement frame : new Throwable().getStackTrace()) {
            if (where.isEmpty() && !frame.getClassName().equals(PlanTest.class.getName())) {
                where = frame.getMethodName() + ":" + frame.getLineNumber() + ": ";
            }
        }
        System.out.println(where + what + (words.isEmpty() ? "" : "\n    in: " + words));
    }

    // ---- plans that many tests begin with

    /** A plan in month 0, with one member. */
    static LookbackPlan started(int rate, int price) {
        return joinedIn(0, rate, price);
    }

    /** A plan in the month in which its one member joined; the price was the same all the time. */
    static LookbackPlan joinedIn(int month, int rate, int price) {
        LookbackPlan plan = new LookbackPlan();
        begin(plan, month + 1, price);
        plan.join(rate);
        return plan;
    }

    static void begin(LookbackPlan plan, int months, int price) {
        for (int i = 0; i < months; i++) {
            plan.next(price);
        }
    }

    /** In month 6, after the purchase of month 5 by one member with ample money. */
    static LookbackPlan bought(int rate, int first, int ceiling, int inPurchaseMonth) {
        LookbackPlan plan = started(rate, first);
        plan.ceiling(ceiling);
        plan.slip(0, 5000000);
        begin(plan, 6, inPurchaseMonth);
        return plan;
    }

    /** In month 6, with 11 shares for 85 each, the price having been 100 all the time. */
    static LookbackPlan elevenShares(int joined) {
        LookbackPlan plan = joinedIn(joined, 10, 100);
        plan.slip(0, 10000);
        begin(plan, 6 - joined, 100);
        return plan;
    }

    /** The purchase price in month 5 of a member who joined in month 0. */
    static int priceAfter(int first, int inPurchaseMonth) {
        LookbackPlan plan = started(15, first);
        plan.slip(0, 5000000);
        begin(plan, 4, 1);
        begin(plan, 1, inPurchaseMonth);
        plan.next(1);
        return plan.paidEach(0, 5);
    }

    /** One share, bought in month 5, sold in month 24. */
    static LookbackPlan soldLate(int first, int now) {
        LookbackPlan plan = started(10, first);
        plan.slip(0, 1000000);
        begin(plan, 23, first);
        plan.next(now);
        due("late", plan.sell(0, 1), 0);
        return plan;
    }
}
