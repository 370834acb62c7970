/** Objects brought to each state of a loan, and what is due of them. */
class Stages extends Checks {
    static final int NONE = LoanLetters.NONE;
    static final int ACCEPT = 0, DECLINE = 1, CANCEL = 2, RECEIVE = 3, RENEW = 4, GIVE_BACK = 5, LOSE = 6;
    static final int PROMISE = 7, CONDITION = 8, REFUSE = 9, SHIP = 10, GRANT = 11, DENY = 12;
    static final int RECALL = 13, CHECK_IN = 14;
    static final int STEPS = 15;
    static final int STATE = 0, DUE = 1, PRICE = 2, CHARGE = 3, SENT = 4, SEEN = 5, ACKED = 6, HAS = 7;
    static final int ENTRIES = 8;

    /** Of each stage the states of the requester (library 0) and of the supplier (library 1). */
    static final int[] ASKER_STATES = {0, 0, 1, 2, 3, 4, 5, 6, 7, 8, 12, 11, 9, 10};
    static final int[] LENDER_STATES = {0, 1, 2, 3, 4, 5, 6, 7, 8, 9, 12, 11, 10, 3};
    static final int STAGES = ASKER_STATES.length;

    static LoanLetters stage(int k) {
        switch (k) {
            case 0: return sent();
            case 1: return asked();
            case 2: return offered(30);
            case 3: return promisedOne();
            case 4: return shipped();
            case 5: return here();
            case 6: return renewing();
            case 7: return recalled();
            case 8: return back();
            case 9: return closed();
            case 10: return lostOne();
            case 11: return cancelled();
            case 12: return unfilled();
            default: return cancelling();
        }
    }

    // Loan 0 of title 0, library 0 from library 1, for 10 days, on day 0, each letter carried at once.

    static LoanLetters sent() {
        LoanLetters x = new LoanLetters();
        x.addCopy(1, 0);
        x.request(0, 0, 1, 10);
        return x;
    }

    static LoanLetters asked() {
        LoanLetters x = sent();
        carryLast(x);
        return x;
    }

    static LoanLetters offered(int price) {
        LoanLetters x = asked();
        actAndCarry(x, 1, CONDITION, price);
        return x;
    }

    static LoanLetters accepted(int price) {
        LoanLetters x = offered(price);
        actAndCarry(x, 0, ACCEPT, 0);
        return x;
    }

    static LoanLetters promisedOne() {
        LoanLetters x = asked();
        actAndCarry(x, 1, PROMISE, 0);
        return x;
    }

    static LoanLetters shipped() {
        LoanLetters x = promisedOne();
        actAndCarry(x, 1, SHIP, 0);
        return x;
    }

    static LoanLetters here() {
        LoanLetters x = shipped();
        actAndCarry(x, 0, RECEIVE, 0);
        return x;
    }

    static LoanLetters renewing() {
        LoanLetters x = here();
        actAndCarry(x, 0, RENEW, 0);
        return x;
    }

    static LoanLetters recalled() {
        LoanLetters x = here();
        actAndCarry(x, 1, RECALL, 0);
        return x;
    }

    static LoanLetters back() {
        LoanLetters x = here();
        actAndCarry(x, 0, GIVE_BACK, 0);
        return x;
    }

    static LoanLetters closed() {
        LoanLetters x = back();
        actAndCarry(x, 1, CHECK_IN, 0);
        return x;
    }

    static LoanLetters lostOne() {
        LoanLetters x = here();
        actAndCarry(x, 0, LOSE, 0);
        return x;
    }

    static LoanLetters cancelled() {
        LoanLetters x = promisedOne();
        actAndCarry(x, 0, CANCEL, 0);
        carryLast(x);
        return x;
    }

    static LoanLetters unfilled() {
        LoanLetters x = asked();
        for (int lib = 1; lib <= 5; lib++) {
            actAndCarry(x, lib, REFUSE, 0);
            if (lib < 5) {
                carryLast(x);
            }
        }
        return x;
    }

    /** The CANCEL is on the way. */
    static LoanLetters cancelling() {
        LoanLetters x = promisedOne();
        x.act(0, 0, CANCEL, 0);
        return x;
    }

    /** Carries the newest letter. */
    static void carryLast(LoanLetters x) {
        due("carry of the newest letter", x.carry(x.letters() - 1), 1);
    }

    static void actAndCarry(LoanLetters x, int lib, int step, int arg) {
        x.act(lib, 0, step, arg);
        carryLast(x);
    }

    // ---- what is due ----

    static void dueStep(LoanLetters x, int lib, int loan, int step, int arg, int want) {
        due(named("act", lib, loan, step, arg), answer(() -> x.act(lib, loan, step, arg)), want);
    }

    static void notNow(LoanLetters x, int lib, int loan, int step, int arg) {
        dueStep(x, lib, loan, step, arg, NOT_NOW);
    }

    static void badArgument(LoanLetters x, int lib, int loan, int step, int arg) {
        dueStep(x, lib, loan, step, arg, BAD_ARGUMENT);
    }

    static void dueBook(LoanLetters x, int lib, int loan, int what, int want) {
        due(named("book", lib, loan, what), answer(() -> x.book(lib, loan, what)), want);
    }

    static void dueWholeBook(LoanLetters x, int lib, int loan, int... want) {
        for (int what = 0; what < ENTRIES; what++) {
            dueBook(x, lib, loan, what, want[what]);
        }
    }

    static void dueStates(LoanLetters x, int requester, int supplier) {
        dueBook(x, 0, 0, STATE, requester);
        dueBook(x, 1, 0, STATE, supplier);
    }

    /** The loan, from whom, to whom, its number, SEEN, KIND, the number told: as many as are given. */
    static void dueLetter(LoanLetters x, int i, int... want) {
        for (int what = 0; what < want.length; what++) {
            int asked = what;
            due(named("letter", i, what), answer(() -> x.letter(i, asked)), want[what]);
        }
    }

    static void dueLetters(LoanLetters x, int want) {
        due("letters()", x.letters(), want);
    }

    static void dueCarry(LoanLetters x, int i, int want) {
        due(named("carry", i), answer(() -> x.carry(i)), want);
    }

    static String named(String call, int... arguments) {
        StringBuilder text = new StringBuilder(call);
        for (int k = 0; k < arguments.length; k++) {
            text.append(k == 0 ? "(" : ", ").append(arguments[k]);
        }
        return text.append(")").toString();
    }

    /** Numbers that aren't 0 .. n - 1: the nearest, and far ones that wrap round when they are reckoned with. */
    static int[] outside(int n) {
        return new int[] {-1, -2, -n, n, n + 1, n + 63, 1 << 16, 1 << 28, 1 << 30, 613566757, Integer.MAX_VALUE - 1,
            Integer.MAX_VALUE, -(1 << 28), -(1 << 30), Integer.MIN_VALUE + 1, Integer.MIN_VALUE};
    }
}
