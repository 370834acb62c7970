/** The promises of the document, one by one: ordinary inputs, the edges that it names, and wrong inputs. */
public final class PromiseTests {
    private static final int ACCEPT = 0, DECLINE = 1, CANCEL = 2, RECEIVE = 3, RENEW = 4, GIVE_BACK = 5, LOSE = 6;
    private static final int PROMISE = 7, CONDITION = 8, REFUSE = 9, SHIP = 10, GRANT = 11, DENY = 12;
    private static final int RECALL = 13, CHECK_IN = 14;
    private static final int STATE = 0, DUE = 1, PRICE = 2, CHARGE = 3, SENT = 4, SEEN = 5, ACKED = 6, HAS = 7;
    private static final int NONE = LoanLetters.NONE;
    private static final int[] ODD = {-1, Integer.MIN_VALUE, Integer.MAX_VALUE, 1 << 30, -(1 << 30)};

    private static int wrong = 0;
    private static String part = "";

    private interface Call {
        int run();
    }

    private static void due(String call, int got, int want) {
        if (got != want) {
            wrong++;
            System.out.println(part + ": " + call + " answered " + got + ", due is " + want);
        }
    }

    private static void due(String call, boolean got, boolean want) {
        due(call, got ? 1 : 0, want ? 1 : 0);
    }

    private static void refused(String call, Class<?> want, Call it) {
        String got;
        try {
            got = "" + it.run();
        } catch (RuntimeException e) {
            if (e.getClass() == want) {
                return;
            }
            got = "throws." + e.getClass().getSimpleName();
        }
        wrong++;
        System.out.println(part + ": " + call + " answered " + got + ", due is throws." + want.getSimpleName());
    }

    private static void badArgument(String call, Call it) {
        refused(call, IllegalArgumentException.class, it);
    }

    private static void notNow(String call, Call it) {
        refused(call, IllegalStateException.class, it);
    }

    private static void dueStep(LoanLetters x, int lib, int loan, int step, int arg, int want) {
        due("act(" + lib + ", " + loan + ", " + step + ", " + arg + ")", x.act(lib, loan, step, arg), want);
    }

    private static void notNow(LoanLetters x, int lib, int loan, int step, int arg) {
        notNow("act(" + lib + ", " + loan + ", " + step + ", " + arg + ")", () -> x.act(lib, loan, step, arg));
    }

    private static void badArgument(LoanLetters x, int lib, int loan, int step, int arg) {
        badArgument("act(" + lib + ", " + loan + ", " + step + ", " + arg + ")", () -> x.act(lib, loan, step, arg));
    }

    private static void dueBook(LoanLetters x, int lib, int loan, int what, int want) {
        due("book(" + lib + ", " + loan + ", " + what + ")", x.book(lib, loan, what), want);
    }

    private static void dueStates(LoanLetters x, int requester, int supplier) {
        dueBook(x, 0, 0, STATE, requester);
        dueBook(x, 1, 0, STATE, supplier);
    }

    private static void dueLetter(LoanLetters x, int i, int... want) {
        for (int what = 0; what < want.length; what++) {
            due("letter(" + i + ", " + what + ")", x.letter(i, what), want[what]);
        }
    }

    /** Carries the newest letter. */
    private static void carryLast(LoanLetters x) {
        due("carry of the newest letter", x.carry(x.letters() - 1), 1);
    }

    private static void actAndCarry(LoanLetters x, int lib, int step, int arg) {
        x.act(lib, 0, step, arg);
        carryLast(x);
    }

    // Loan 0 of title 0, library 0 from library 1, for 10 days, on day 0, each letter carried at once.

    private static LoanLetters sent() {
        LoanLetters x = new LoanLetters();
        x.addCopy(1, 0);
        x.request(0, 0, 1, 10);
        return x;
    }

    private static LoanLetters asked() {
        LoanLetters x = sent();
        carryLast(x);
        return x;
    }

    private static LoanLetters offered(int price) {
        LoanLetters x = asked();
        actAndCarry(x, 1, CONDITION, price);
        return x;
    }

    private static LoanLetters promisedOne() {
        LoanLetters x = asked();
        actAndCarry(x, 1, PROMISE, 0);
        return x;
    }

    private static LoanLetters shipped() {
        LoanLetters x = promisedOne();
        actAndCarry(x, 1, SHIP, 0);
        return x;
    }

    private static LoanLetters here() {
        LoanLetters x = shipped();
        actAndCarry(x, 0, RECEIVE, 0);
        return x;
    }

    private static LoanLetters renewing() {
        LoanLetters x = here();
        actAndCarry(x, 0, RENEW, 0);
        return x;
    }

    private static LoanLetters recalled() {
        LoanLetters x = here();
        actAndCarry(x, 1, RECALL, 0);
        return x;
    }

    private static LoanLetters back() {
        LoanLetters x = here();
        actAndCarry(x, 0, GIVE_BACK, 0);
        return x;
    }

    private static LoanLetters closed() {
        LoanLetters x = back();
        actAndCarry(x, 1, CHECK_IN, 0);
        return x;
    }

    private static LoanLetters lostOne() {
        LoanLetters x = here();
        actAndCarry(x, 0, LOSE, 0);
        return x;
    }

    private static LoanLetters cancelled() {
        LoanLetters x = promisedOne();
        actAndCarry(x, 0, CANCEL, 0);
        carryLast(x);
        return x;
    }

    private static LoanLetters unfilled() {
        LoanLetters x = asked();
        for (int lib = 1; lib <= 5; lib++) {
            actAndCarry(x, lib, REFUSE, 0);
            if (lib < 5) {
                carryLast(x);
            }
        }
        return x;
    }

    // ---- promise 1 ----

    private static void newObject() {
        part = "promise 1";
        LoanLetters x = new LoanLetters();
        due("letters()", x.letters(), 0);
        due("carry(0)", x.carry(0), NONE);
        due("drop(0)", x.drop(0), false);
        due("letter(0, 0)", x.letter(0, 0), NONE);
        due("supplier(0)", x.supplier(0), NONE);
        due("settled(0)", x.settled(0), false);
        due("holder(0)", x.holder(0), NONE);
        due("promised(0)", x.promised(0), NONE);
        dueBook(x, 0, 0, STATE, NONE);
        badArgument("resend(0, 0)", () -> x.resend(0, 0));
        badArgument(x, 0, 0, CANCEL, 0);
        for (int lib = 0; lib < 6; lib++) {
            due("balance(" + lib + ")", x.balance(lib), 0);
            for (int title = 0; title < 8; title++) {
                due("queue(" + lib + ", " + title + ")", x.queue(lib, title), 0);
            }
        }
        x.addCopy(0, 0);
        x.request(0, 0, 0, 1);
        LoanLetters other = new LoanLetters();
        due("letters() of another object", other.letters(), 0);
        due("holder(0) of another object", other.holder(0), NONE);
    }

    // ---- promise 2 ----

    private static void copiesAreAdded() {
        part = "promise 2";
        LoanLetters x = new LoanLetters();
        for (int bad : ODD) {
            badArgument("addCopy(" + bad + ", 0)", () -> x.addCopy(bad, 0));
            badArgument("addCopy(0, " + bad + ")", () -> x.addCopy(0, bad));
        }
        badArgument("addCopy(6, 0)", () -> x.addCopy(6, 0));
        badArgument("addCopy(0, 8)", () -> x.addCopy(0, 8));
        for (int k = 0; k < 32; k++) {
            due("addCopy, call " + k, x.addCopy(k % 6, k % 8), k);
            due("holder(" + k + ")", x.holder(k), k % 6);
        }
        notNow("addCopy, the 33rd", () -> x.addCopy(0, 0));
        badArgument("addCopy(6, 0), the 33rd", () -> x.addCopy(6, 0));
        badArgument("addCopy(0, 8), the 33rd", () -> x.addCopy(0, 8));
        due("holder(32)", x.holder(32), NONE);
        due("letters()", x.letters(), 0);
    }

    // ---- promise 3 ----

    private static void loansAreRequested() {
        part = "promise 3";
        LoanLetters x = new LoanLetters();
        for (int bad : ODD) {
            badArgument("request(" + bad + ", 0, 0, 1)", () -> x.request(bad, 0, 0, 1));
            badArgument("request(0, " + bad + ", 0, 1)", () -> x.request(0, bad, 0, 1));
            badArgument("request(0, 0, " + bad + ", 1)", () -> x.request(0, 0, bad, 1));
            badArgument("request(0, 0, 0, " + bad + ")", () -> x.request(0, 0, 0, bad));
        }
        badArgument("request(6, 0, 0, 1)", () -> x.request(6, 0, 0, 1));
        badArgument("request(0, 8, 0, 1)", () -> x.request(0, 8, 0, 1));
        badArgument("request(0, 0, 6, 1)", () -> x.request(0, 0, 6, 1));
        badArgument("request(0, 0, 0, 0)", () -> x.request(0, 0, 0, 0));
        badArgument("request(0, 0, 0, 100)", () -> x.request(0, 0, 0, 100));
        due("letters()", x.letters(), 0);
        due("request(0, 7, 3, 99)", x.request(0, 7, 3, 99), 0);
        due("request(5, 0, 5, 1)", x.request(5, 0, 5, 1), 1);
        dueLetter(x, 0, 0, 0, 3, 1, 0, 1, 99);
        dueLetter(x, 1, 1, 5, 0, 1, 0, 1, 1);
        dueBook(x, 0, 0, STATE, 0);
        for (int k = 2; k < 32; k++) {
            due("request, call " + k, x.request(1, 0, 2, 5), k);
        }
        notNow("request, the 33rd", () -> x.request(1, 0, 2, 5));
        badArgument("request(1, 0, 2, 0), the 33rd", () -> x.request(1, 0, 2, 0));
        badArgument("request(1, 0, 6, 5), the 33rd", () -> x.request(1, 0, 6, 5));
        due("letters()", x.letters(), 32);
    }

    private static void rotaGoesRound() {
        part = "promise 3, the rota";
        for (int lib = 0; lib < 6; lib++) {
            for (int start = 0; start < 6; start++) {
                LoanLetters x = new LoanLetters();
                x.request(lib, 4, start, 8);
                for (int k = 0; k < 6; k++) {
                    int one = (start + k) % 6;
                    if (one != lib) {
                        due("supplier of " + lib + " from " + start, x.supplier(0), one);
                        carryLast(x);
                        actAndCarry(x, one, REFUSE, 0);
                    }
                }
                dueBook(x, lib, 0, STATE, 9);
                due("letters()", x.letters(), 10);
            }
        }
    }

    // ---- promise 4 ----

    private static void stepsOfWrongCallers() {
        part = "promise 4, who";
        LoanLetters x = asked();
        for (int step = 0; step <= 14; step++) {
            badArgument(x, step <= 6 ? 1 : 0, 0, step, 0);
            badArgument(x, 2, 0, step, 0);
            for (int bad : ODD) {
                badArgument(x, bad, 0, step, 0);
                badArgument(x, step <= 6 ? 0 : 1, bad, step, 0);
            }
            badArgument(x, 6, 0, step, 0);
            badArgument(x, step <= 6 ? 0 : 1, 1, step, 0);
        }
        for (int bad : ODD) {
            badArgument(x, 0, 0, bad, 0);
            badArgument(x, 1, 0, bad, 0);
        }
        badArgument(x, 0, 0, 15, 0);
        badArgument(x, 1, 0, 15, 0);
        due("letters()", x.letters(), 1);
        LoanLetters y = sent();
        notNow(y, 1, 0, REFUSE, 0);
        badArgument(y, 2, 0, REFUSE, 0);
    }

    /** For each state of both: what each step answers; NONE if it can't be done. */
    private static void stepsByStates() {
        part = "promise 4, states";
        int[][] due = {
            // accept, decline, cancel, receive, renew, give back, lose; promise .. check in
            {-1, -1, 10, -1, -1, -1, -1, -1, -1, -1, -1, -1, -1, -1, -1}, // ASKING, NONE
            {-1, -1, 10, -1, -1, -1, -1, 3, 2, 10, -1, -1, -1, -1, -1}, // ASKING, ASKED
            {0, 0, 10, -1, -1, -1, -1, -1, -1, -1, -1, -1, -1, -1, -1}, // CONDITION, OFFERED
            {-1, -1, 10, -1, -1, -1, -1, -1, -1, -1, 4, -1, -1, -1, -1}, // PROMISED, PROMISED
            {-1, -1, -1, 4, -1, -1, -1, -1, -1, -1, -1, -1, -1, -1, -1}, // COMING, SHIPPED
            {-1, -1, -1, -1, 5, 7, 12, -1, -1, -1, -1, -1, -1, 7, -1}, // HERE, OUT
            {-1, -1, -1, -1, -1, 7, 12, -1, -1, -1, -1, 5, 5, 7, -1}, // RENEWING, RENEWAL
            {-1, -1, -1, -1, -1, 7, 12, -1, -1, -1, -1, -1, -1, -1, -1}, // RECALLED, WANTED
            {-1, -1, -1, -1, -1, -1, -1, -1, -1, -1, -1, -1, -1, -1, 9}, // BACK, RETURNING
            {-1, -1, -1, -1, -1, -1, -1, -1, -1, -1, -1, -1, -1, -1, -1}, // CLOSED, CLOSED
            {-1, -1, -1, -1, -1, -1, -1, -1, -1, -1, -1, -1, -1, -1, -1}, // LOST, LOST
            {-1, -1, -1, -1, -1, -1, -1, -1, -1, -1, -1, -1, -1, -1, -1}, // CANCELLED, CANCELLED
            {-1, -1, -1, -1, -1, -1, -1, -1, -1, -1, -1, -1, -1, -1, -1}, // UNFILLED, REFUSED
        };
        for (int k = 0; k < due.length; k++) {
            for (int step = 0; step <= 14; step++) {
                LoanLetters x = stage(k);
                int letters = x.letters();
                int lib = step <= 6 ? 0 : 1;
                int arg = step == CONDITION ? 1000 : 0;
                part = "promise 4, stage " + k;
                if (due[k][step] == NONE) {
                    notNow(x, lib, 0, step, arg);
                    due("letters()", x.letters(), letters);
                } else {
                    dueStep(x, lib, 0, step, arg, due[k][step]);
                    dueBook(x, lib, 0, STATE, due[k][step]);
                }
            }
        }
    }

    private static LoanLetters stage(int k) {
        switch (k) {
            case 0: return sent();
            case 1: return asked();
            case 2: return offered(30);
            case 3: return promisedOne();
            case 4: return shipped();
            case 5: return here();
            case 6: return renewing();
            case 7: return recalled();
            case 8: return back();
            case 9: return closed();
            case 10: return lostOne();
            case 11: return cancelled();
            default: return unfilled();
        }
    }

    private static void lettersOfSteps() {
        part = "promise 4, letters";
        LoanLetters x = offered(77);
        dueLetter(x, 1, 0, 1, 0, 1, 1, 3, 77);
        x.act(0, 0, ACCEPT, 9);
        dueLetter(x, 2, 0, 0, 1, 2, 1, 5, 0);
        carryLast(x);
        dueStates(x, 0, 1);
        x.act(1, 0, PROMISE, 0);
        dueLetter(x, 3, 0, 1, 0, 2, 2, 2, 0);
        carryLast(x);
        x.pass(1000);
        x.act(1, 0, SHIP, 5);
        dueLetter(x, 4, 0, 1, 0, 3, 2, 7, 1010);
        carryLast(x);
        x.act(0, 0, RECEIVE, 5);
        dueLetter(x, 5, 0, 0, 1, 3, 3, 8, 0);
        carryLast(x);
        x.act(0, 0, RENEW, 5);
        dueLetter(x, 6, 0, 0, 1, 4, 3, 9, 0);
        carryLast(x);
        x.act(1, 0, GRANT, 5);
        dueLetter(x, 7, 0, 1, 0, 4, 4, 10, 1020);
        carryLast(x);
        actAndCarry(x, 0, RENEW, 0);
        x.act(1, 0, DENY, 5);
        dueLetter(x, 9, 0, 1, 0, 5, 5, 10, 0);
        carryLast(x);
        x.act(1, 0, RECALL, 5);
        dueLetter(x, 10, 0, 1, 0, 6, 5, 11, 1007);
        carryLast(x);
        x.act(0, 0, GIVE_BACK, 5);
        dueLetter(x, 11, 0, 0, 1, 6, 6, 12, 0);
        carryLast(x);
        x.pass(10);
        x.act(1, 0, CHECK_IN, 5);
        dueLetter(x, 12, 0, 1, 0, 7, 6, 13, 107);
        LoanLetters y = here();
        y.act(0, 0, LOSE, 5);
        dueLetter(y, 4, 0, 0, 1, 3, 2, 14, 0);
        LoanLetters z = asked();
        z.act(0, 0, CANCEL, 5);
        dueLetter(z, 1, 0, 0, 1, 2, 0, 15, 0);
        LoanLetters w = asked();
        w.act(1, 0, REFUSE, 5);
        dueLetter(w, 1, 0, 1, 0, 1, 1, 4, 0);
    }

    private static void declineAsksNext() {
        part = "promise 4, decline";
        LoanLetters x = offered(30);
        dueBook(x, 0, 0, PRICE, 30);
        dueStep(x, 0, 0, DECLINE, 0, 0);
        due("letters()", x.letters(), 4);
        dueLetter(x, 2, 0, 0, 1, 2, 1, 6, 0);
        dueLetter(x, 3, 0, 0, 2, 1, 0, 1, 10);
        due("supplier(0)", x.supplier(0), 2);
        dueBook(x, 0, 0, PRICE, 0);
        dueBook(x, 0, 0, SENT, 1);
        dueBook(x, 0, 0, SEEN, 0);
        due("carry(2)", x.carry(2), 1);
        dueBook(x, 1, 0, STATE, 10);
        dueBook(x, 1, 0, PRICE, 30);
        for (int lib = 2; lib <= 5; lib++) {
            carryLast(x);
            actAndCarry(x, lib, CONDITION, lib);
            dueBook(x, 0, 0, PRICE, lib);
            dueStep(x, 0, 0, DECLINE, 0, lib == 5 ? 9 : 0);
            dueBook(x, 0, 0, PRICE, 0);
        }
        due("supplier(0)", x.supplier(0), 5);
        dueBook(x, 0, 0, SENT, 2);
    }

    private static void copiesThatCanBePromised() {
        part = "promise 4, promise";
        LoanLetters x = new LoanLetters();
        x.addCopy(1, 3);
        x.addCopy(2, 3);
        x.addCopy(1, 4);
        x.request(0, 3, 1, 10);
        x.request(2, 3, 1, 10);
        x.carry(0);
        x.carry(1);
        for (int bad : ODD) {
            notNow(x, 1, 0, PROMISE, bad);
        }
        notNow(x, 1, 0, PROMISE, 1);
        notNow(x, 1, 0, PROMISE, 2);
        notNow(x, 1, 0, PROMISE, 3);
        dueStep(x, 1, 0, PROMISE, 0, 3);
        notNow(x, 1, 1, PROMISE, 0);
        carryLast(x);
        actAndCarry(x, 1, SHIP, 0);
        notNow(x, 1, 1, PROMISE, 0);
        actAndCarry(x, 0, RECEIVE, 0);
        actAndCarry(x, 0, GIVE_BACK, 0);
        notNow(x, 1, 1, PROMISE, 0);
        actAndCarry(x, 1, CHECK_IN, 0);
        dueStep(x, 1, 1, PROMISE, 0, 3);
        LoanLetters y = lostOne();
        y.request(2, 0, 1, 3);
        carryLast(y);
        due("promised(0)", y.promised(0), NONE);
        notNow(y, 1, 1, PROMISE, 0);
    }

    private static void pricesThatCanBeAsked() {
        part = "promise 4, condition";
        LoanLetters x = asked();
        for (int bad : ODD) {
            notNow(x, 1, 0, CONDITION, bad);
        }
        notNow(x, 1, 0, CONDITION, 0);
        notNow(x, 1, 0, CONDITION, 1001);
        dueStep(x, 1, 0, CONDITION, 1, 2);
        dueBook(x, 1, 0, PRICE, 1);
        carryLast(x);
        actAndCarry(x, 0, ACCEPT, 0);
        notNow(x, 1, 0, CONDITION, 1);
        dueStep(x, 1, 0, REFUSE, 0, 10);
        dueStep(asked(), 1, 0, CONDITION, 1000, 2);
    }

    private static void renewalsAreGrantedThrice() {
        part = "promise 4, grant";
        LoanLetters x = here();
        for (int k = 1; k <= 3; k++) {
            actAndCarry(x, 0, RENEW, 0);
            actAndCarry(x, 1, DENY, 0);
            dueBook(x, 0, 0, DUE, 10 * k);
            actAndCarry(x, 0, RENEW, 0);
            x.pass(1);
            actAndCarry(x, 1, GRANT, 0);
            dueBook(x, 0, 0, DUE, 10 + 10 * k);
            dueBook(x, 1, 0, DUE, 10 + 10 * k);
            dueStates(x, 4, 5);
        }
        actAndCarry(x, 0, RENEW, 0);
        notNow(x, 1, 0, GRANT, 0);
        dueStep(x, 1, 0, DENY, 0, 5);
    }

    private static void recallMakesDueEarlier() {
        part = "promise 4, recall";
        int[] passed = {1, 2, 3, 4, 50};
        int[] due = {8, 9, 10, 10, 10};
        for (int k = 0; k < passed.length; k++) {
            LoanLetters x = here();
            x.pass(passed[k]);
            actAndCarry(x, 1, RECALL, 0);
            dueBook(x, 1, 0, DUE, due[k]);
            dueBook(x, 0, 0, DUE, due[k]);
            dueStates(x, 6, 7);
        }
    }

    private static void chargeOfCheckIn() {
        part = "promise 4, check in";
        int[] passed = {9, 10, 11, 1000};
        int[] late = {0, 0, 10, 9900};
        for (int k = 0; k < passed.length; k++) {
            LoanLetters x = offered(25);
            actAndCarry(x, 0, ACCEPT, 0);
            actAndCarry(x, 1, PROMISE, 0);
            actAndCarry(x, 1, SHIP, 0);
            actAndCarry(x, 0, RECEIVE, 0);
            actAndCarry(x, 0, GIVE_BACK, 0);
            x.pass(passed[k]);
            x.act(1, 0, CHECK_IN, 0);
            dueBook(x, 1, 0, CHARGE, late[k] + 25);
            due("balance(1)", x.balance(1), late[k] + 25);
            dueBook(x, 0, 0, CHARGE, 0);
            due("balance(0)", x.balance(0), 0);
            carryLast(x);
            dueBook(x, 0, 0, CHARGE, late[k] + 25);
            due("balance(0)", x.balance(0), -late[k] - 25);
            dueStates(x, 8, 9);
        }
    }

    // ---- promise 5 ----

    private static void daysPass() {
        part = "promise 5";
        LoanLetters x = promisedOne();
        for (int bad : ODD) {
            due("pass(" + bad + ")", x.pass(bad), false);
        }
        due("pass(0)", x.pass(0), false);
        due("pass(1001)", x.pass(1001), false);
        due("pass(1)", x.pass(1), true);
        due("pass(1000)", x.pass(1000), true);
        x.act(1, 0, SHIP, 0);
        dueBook(x, 1, 0, DUE, 1011);
        due("letters()", x.letters(), 3);
    }

    // ---- promise 6 ----

    private static void lettersAreSentAgain() {
        part = "promise 6";
        LoanLetters x = asked();
        for (int bad : ODD) {
            badArgument("resend(" + bad + ", 0)", () -> x.resend(bad, 0));
            badArgument("resend(0, " + bad + ")", () -> x.resend(0, bad));
        }
        badArgument("resend(6, 0)", () -> x.resend(6, 0));
        badArgument("resend(2, 0)", () -> x.resend(2, 0));
        badArgument("resend(0, 1)", () -> x.resend(0, 1));
        due("letters()", x.letters(), 1);
        due("resend(0, 0)", x.resend(0, 0), 2);
        dueLetter(x, 1, 0, 0, 1, 1, 0, 1, 10);
        dueLetter(x, 2, 0, 0, 1, 0, 0, 0, 0);
        due("resend(1, 0)", x.resend(1, 0), 1);
        dueLetter(x, 3, 0, 1, 0, 0, 1, 0, 0);
        due("carry(3)", x.carry(3), 0);
        dueBook(x, 0, 0, ACKED, 1);
        due("resend(0, 0)", x.resend(0, 0), 1);
        x.act(1, 0, PROMISE, 0);
        x.act(1, 0, SHIP, 0);
        x.act(0, 0, CANCEL, 0);
        carryLast(x);
        due("resend(1, 0)", x.resend(1, 0), 3);
        dueLetter(x, 8, 0, 1, 0, 1, 2, 2, 0);
        dueLetter(x, 9, 0, 1, 0, 2, 2, 7, 10);
        dueLetter(x, 10, 0, 1, 0, 0, 2, 0, 0);
        due("letters()", x.letters(), 11);
        dueBook(x, 1, 0, SENT, 2);
        due("resend(1, 0), again", x.resend(1, 0), 3);
    }

    private static void formerSuppliersSendAgain() {
        part = "promise 6, former suppliers";
        LoanLetters x = asked();
        actAndCarry(x, 1, REFUSE, 0);
        due("resend(1, 0)", x.resend(1, 0), 2);
        dueLetter(x, 3, 0, 1, 0, 1, 1, 4, 0);
        due("carry(3)", x.carry(3), 0);
        due("supplier(0)", x.supplier(0), 2);
        due("resend(2, 0)", x.resend(2, 0), 1);
        dueLetter(x, 5, 0, 2, 0, 0, 0, 0, 0);
        due("resend(0, 0)", x.resend(0, 0), 2);
        dueLetter(x, 6, 0, 0, 2, 1, 0, 1, 10);
        dueLetter(x, 7, 0, 0, 2, 0, 0, 0, 0);
    }

    // ---- promise 7 ----

    private static void rowHasItsLimit() {
        part = "promise 7";
        LoanLetters x = new LoanLetters();
        for (int k = 0; k < 32; k++) {
            x.request(0, 0, 1, k + 1);
            due("letters()", x.letters(), k + 1);
        }
        for (int k = 0; k < 16; k++) {
            due("resend(0, " + k + ")", x.resend(0, k), 2);
        }
        due("letters()", x.letters(), 64);
        dueLetter(x, 0, 0, 0, 1, 1, 0, 1, 1);
        x.resend(1, 31);
        due("letters()", x.letters(), 64);
        dueLetter(x, 0, 1, 0, 1, 1, 0, 1, 2);
        dueLetter(x, 63, 31, 1, 0, 0, 0, 0, 0);
        x.resend(0, 20);
        due("letters()", x.letters(), 64);
        dueLetter(x, 0, 3, 0, 1, 1, 0, 1, 4);
        dueLetter(x, 62, 20, 0, 1, 1, 0, 1, 21);
        dueLetter(x, 63, 20, 0, 1, 0, 0, 0, 0);
        due("drop(5)", x.drop(5), true);
        due("letters()", x.letters(), 63);
    }

    private static void carriedLetterMayBePushedOut() {
        part = "promise 7, an answer into a full row";
        LoanLetters x = new LoanLetters();
        x.request(0, 0, 1, 9);
        x.carry(0);
        x.drop(0);
        x.act(0, 0, CANCEL, 0);
        for (int k = 0; k < 63; k++) {
            x.resend(1, 0);
        }
        due("letters()", x.letters(), 64);
        dueLetter(x, 0, 0, 0, 1, 2, 0, 15, 0);
        due("carry(0)", x.carry(0), 1);
        due("letters()", x.letters(), 64);
        dueLetter(x, 0, 0, 1, 0, 0, 1, 0, 0);
        dueLetter(x, 63, 0, 1, 0, 1, 2, 16, 0);
    }

    // ---- promise 8 ----

    private static void lettersAreCarried() {
        part = "promise 8";
        LoanLetters x = sent();
        for (int bad : ODD) {
            due("carry(" + bad + ")", x.carry(bad), NONE);
        }
        due("carry(1)", x.carry(1), NONE);
        due("carry(0)", x.carry(0), 1);
        due("carry(0), again", x.carry(0), 0);
        due("letters()", x.letters(), 1);
        dueBook(x, 1, 0, SEEN, 1);
        x.act(1, 0, CONDITION, 40);
        carryLast(x);
        x.act(0, 0, ACCEPT, 0);
        x.act(0, 0, CANCEL, 0);
        due("carry(3), too early", x.carry(3), 0);
        dueBook(x, 1, 0, STATE, 2);
        dueBook(x, 1, 0, SEEN, 1);
        due("drop(3)", x.drop(3), true);
        due("carry(2)", x.carry(2), 2);
        dueBook(x, 1, 0, STATE, 11);
        dueBook(x, 1, 0, SEEN, 3);
        dueLetter(x, 3, 0, 1, 0, 2, 3, 16, 0);
        due("carry(3)", x.carry(3), 1);
        dueStates(x, 11, 11);
        dueBook(x, 0, 0, ACKED, 3);
        due("carry(1), an old one", x.carry(1), 0);
        dueBook(x, 0, 0, ACKED, 3);
        dueBook(x, 0, 0, PRICE, 40);
    }

    private static void lettersThatCross() {
        part = "promise 8, crossing letters";
        LoanLetters cancelShip = promisedOne();
        cancelShip.act(0, 0, CANCEL, 0);
        cancelShip.act(1, 0, SHIP, 0);
        due("CANCEL", cancelShip.carry(2), 1);
        dueStates(cancelShip, 10, 4);
        due("SHIPPED", cancelShip.carry(3), 1);
        dueStates(cancelShip, 3, 4);
        LoanLetters cancelRefuse = asked();
        cancelRefuse.act(0, 0, CANCEL, 0);
        cancelRefuse.act(1, 0, REFUSE, 0);
        due("CANCEL", cancelRefuse.carry(1), 1);
        due("REFUSE", cancelRefuse.carry(2), 1);
        dueStates(cancelRefuse, 11, 10);
        due("supplier(0)", cancelRefuse.supplier(0), 1);
        due("letters()", cancelRefuse.letters(), 3);
        LoanLetters cancelOffer = asked();
        cancelOffer.act(0, 0, CANCEL, 0);
        cancelOffer.act(1, 0, CONDITION, 5);
        due("CONDITION", cancelOffer.carry(2), 1);
        dueStates(cancelOffer, 10, 2);
        dueBook(cancelOffer, 0, 0, PRICE, 0);
        due("CANCEL", cancelOffer.carry(1), 1);
        due("CANCELLED", cancelOffer.carry(3), 1);
        dueStates(cancelOffer, 11, 11);
        LoanLetters renewRecall = here();
        renewRecall.act(0, 0, RENEW, 0);
        renewRecall.act(1, 0, RECALL, 0);
        due("RENEW", renewRecall.carry(4), 1);
        due("RECALL", renewRecall.carry(5), 1);
        dueStates(renewRecall, 6, 7);
        LoanLetters backRecall = here();
        backRecall.act(0, 0, GIVE_BACK, 0);
        backRecall.act(1, 0, RECALL, 0);
        due("RECALL", backRecall.carry(5), 1);
        due("RETURNED", backRecall.carry(4), 1);
        dueStates(backRecall, 7, 8);
        dueBook(backRecall, 0, 0, DUE, 10);
        dueBook(backRecall, 1, 0, DUE, 7);
        lettersThatCrossARenewal();
    }

    private static void lettersThatCrossARenewal() {
        LoanLetters backGrant = renewing();
        backGrant.act(0, 0, GIVE_BACK, 0);
        backGrant.act(1, 0, GRANT, 0);
        due("RENEWED", backGrant.carry(6), 1);
        due("RETURNED", backGrant.carry(5), 1);
        dueStates(backGrant, 7, 8);
        dueBook(backGrant, 0, 0, DUE, 10);
        LoanLetters backAsked = renewing();
        actAndCarry(backAsked, 0, GIVE_BACK, 0);
        dueStates(backAsked, 7, 8);
        LoanLetters lostAsked = renewing();
        actAndCarry(lostAsked, 0, LOSE, 0);
        dueStates(lostAsked, 12, 12);
        LoanLetters lostWanted = recalled();
        actAndCarry(lostWanted, 0, LOSE, 0);
        dueStates(lostWanted, 12, 12);
        LoanLetters recallWhileAsked = renewing();
        actAndCarry(recallWhileAsked, 1, RECALL, 0);
        dueStates(recallWhileAsked, 6, 7);
        actAndCarry(recallWhileAsked, 0, GIVE_BACK, 0);
        dueStates(recallWhileAsked, 7, 8);
    }

    // ---- promise 9 ----

    private static void lettersAreDropped() {
        part = "promise 9";
        LoanLetters x = new LoanLetters();
        for (int k = 0; k < 4; k++) {
            x.request(0, 0, 1, k + 1);
        }
        for (int bad : ODD) {
            due("drop(" + bad + ")", x.drop(bad), false);
        }
        due("drop(4)", x.drop(4), false);
        due("letters()", x.letters(), 4);
        due("drop(1)", x.drop(1), true);
        dueLetter(x, 0, 0, 0, 1, 1, 0, 1, 1);
        dueLetter(x, 1, 2, 0, 1, 1, 0, 1, 3);
        dueLetter(x, 2, 3, 0, 1, 1, 0, 1, 4);
        dueLetter(x, 3, NONE);
        due("drop(2)", x.drop(2), true);
        due("drop(0)", x.drop(0), true);
        due("drop(0)", x.drop(0), true);
        due("drop(0)", x.drop(0), false);
        due("letters()", x.letters(), 0);
        dueBook(x, 0, 1, SENT, 1);
        due("resend(0, 1)", x.resend(0, 1), 2);
        due("carry(0)", x.carry(0), 1);
    }

    // ---- promise 10 ----

    private static void lettersAreRead() {
        part = "promise 10";
        LoanLetters x = sent();
        x.request(4, 6, 2, 50);
        x.carry(1);
        x.act(2, 1, CONDITION, 999);
        dueLetter(x, 0, 0, 0, 1, 1, 0, 1, 10);
        dueLetter(x, 1, 1, 4, 2, 1, 0, 1, 50);
        dueLetter(x, 2, 1, 2, 4, 1, 1, 3, 999);
        for (int bad : ODD) {
            due("letter(" + bad + ", 0)", x.letter(bad, 0), NONE);
            due("letter(0, " + bad + ")", x.letter(0, bad), NONE);
        }
        due("letter(3, 0)", x.letter(3, 0), NONE);
        due("letter(0, 7)", x.letter(0, 7), NONE);
        due("letter(1, -1)", x.letter(1, -1), NONE);
    }

    // ---- promise 11 ----

    private static void booksAreRead() {
        part = "promise 11";
        LoanLetters x = offered(60);
        actAndCarry(x, 0, ACCEPT, 0);
        actAndCarry(x, 1, PROMISE, 0);
        int[] requester = {2, 0, 60, 0, 2, 2, 2, 0};
        int[] supplier = {3, 0, 60, 0, 2, 2, 1, 1};
        for (int what = 0; what <= 7; what++) {
            dueBook(x, 0, 0, what, requester[what]);
            dueBook(x, 1, 0, what, supplier[what]);
            dueBook(x, 2, 0, what, NONE);
            dueBook(x, 0, 1, what, NONE);
            for (int bad : ODD) {
                dueBook(x, bad, 0, what, NONE);
                dueBook(x, 0, bad, what, NONE);
            }
        }
        for (int bad : ODD) {
            dueBook(x, 0, 0, bad, NONE);
            dueBook(x, 1, 0, bad, NONE);
        }
        dueBook(x, 0, 0, 8, NONE);
        dueBook(x, 1, 0, 8, NONE);
        dueBook(x, 6, 0, STATE, NONE);
        LoanLetters y = sent();
        int[] unasked = {0, 0, 0, 0, 0, 0, 0, 0};
        for (int what = 0; what <= 7; what++) {
            dueBook(y, 1, 0, what, unasked[what]);
        }
    }

    private static void whoHasTheCopy() {
        part = "promise 11, who has the copy";
        int[] requester = {0, 0, 0, 0, 0, 1, 1, 1, 0, 0, 0, 0, 0};
        int[] supplier = {0, 0, 0, 1, 0, 0, 0, 0, 0, 0, 0, 0, 0};
        int[] askerStates = {0, 0, 1, 2, 3, 4, 5, 6, 7, 8, 12, 11, 9};
        int[] lenderStates = {0, 1, 2, 3, 4, 5, 6, 7, 8, 9, 12, 11, 10};
        for (int k = 0; k < requester.length; k++) {
            part = "promise 11, stage " + k;
            LoanLetters x = stage(k);
            dueBook(x, 0, 0, HAS, requester[k]);
            dueBook(x, 1, 0, HAS, supplier[k]);
            dueStates(x, askerStates[k], lenderStates[k]);
        }
    }

    private static void bookTurnsToPresentSupplier() {
        part = "promise 11, the present supplier";
        LoanLetters x = offered(60);
        actAndCarry(x, 0, ACCEPT, 0);
        actAndCarry(x, 1, REFUSE, 0);
        int[] requester = {0, 0, 0, 0, 1, 0, 0, 0};
        int[] former = {10, 0, 60, 0, 2, 2, 1, 0};
        for (int what = 0; what <= 7; what++) {
            dueBook(x, 0, 0, what, requester[what]);
            dueBook(x, 1, 0, what, former[what]);
        }
        LoanLetters y = unfilled();
        dueBook(y, 0, 0, SENT, 1);
        dueBook(y, 0, 0, SEEN, 1);
        dueBook(y, 0, 0, ACKED, 1);
    }

    // ---- promises 12 to 17 ----

    private static void presentSupplier() {
        part = "promise 12";
        LoanLetters x = asked();
        for (int bad : ODD) {
            due("supplier(" + bad + ")", x.supplier(bad), NONE);
        }
        due("supplier(1)", x.supplier(1), NONE);
        due("supplier(0)", x.supplier(0), 1);
        x.act(1, 0, REFUSE, 0);
        due("supplier(0), REFUSE on the way", x.supplier(0), 1);
        carryLast(x);
        due("supplier(0)", x.supplier(0), 2);
        due("supplier(0), UNFILLED", unfilled().supplier(0), 5);
    }

    private static void holders() {
        part = "promise 13";
        int[] want = {1, 1, 1, 1, 6, 0, 0, 0, 6, 1, 7, 1, 1};
        for (int k = 0; k < want.length; k++) {
            due("holder(0) at stage " + k, stage(k).holder(0), want[k]);
        }
        LoanLetters x = here();
        for (int bad : ODD) {
            due("holder(" + bad + ")", x.holder(bad), NONE);
        }
        due("holder(1)", x.holder(1), NONE);
        due("POST", LoanLetters.POST, 6);
        due("LOST", LoanLetters.LOST, 7);
        due("NONE", LoanLetters.NONE, -1);
    }

    private static void promises() {
        part = "promise 14";
        int[] want = {-1, -1, -1, 0, 0, 0, 0, 0, 0, -1, -1, -1, -1};
        for (int k = 0; k < want.length; k++) {
            due("promised(0) at stage " + k, stage(k).promised(0), want[k]);
        }
        LoanLetters x = here();
        for (int bad : ODD) {
            due("promised(" + bad + ")", x.promised(bad), NONE);
        }
        due("promised(1)", x.promised(1), NONE);
        x.act(0, 0, LOSE, 0);
        due("promised(0), LOST on the way", x.promised(0), 0);
        carryLast(x);
        due("promised(0)", x.promised(0), NONE);
        LoanLetters y = new LoanLetters();
        y.addCopy(3, 5);
        y.request(0, 1, 1, 1);
        y.request(2, 5, 3, 1);
        carryLast(y);
        y.act(3, 1, PROMISE, 0);
        due("promised(0)", y.promised(0), 1);
    }

    private static void balances() {
        part = "promise 15";
        LoanLetters x = here();
        x.act(0, 0, LOSE, 0);
        due("balance(0)", x.balance(0), -4000);
        due("balance(1)", x.balance(1), 0);
        carryLast(x);
        due("carry, again", x.carry(x.letters() - 1), 0);
        due("balance(0)", x.balance(0), -4000);
        due("balance(1)", x.balance(1), 4000);
        for (int bad : ODD) {
            due("balance(" + bad + ")", x.balance(bad), 0);
        }
        due("balance(6)", x.balance(6), 0);
        LoanLetters y = back();
        y.pass(500);
        actAndCarry(y, 1, CHECK_IN, 0);
        due("carry, again", y.carry(y.letters() - 1), 0);
        due("balance(0)", y.balance(0), -4900);
        due("balance(1)", y.balance(1), 4900);
    }

    private static void queues() {
        part = "promise 16";
        int[] want = {0, 1, 0, 0, 0, 0, 0, 0, 0, 0, 0, 0, 0};
        for (int k = 0; k < want.length; k++) {
            due("queue(1, 0) at stage " + k, stage(k).queue(1, 0), want[k]);
        }
        LoanLetters x = new LoanLetters();
        for (int k = 0; k < 32; k++) {
            x.request(0, k % 2 == 0 ? 7 : 6, 5, 1);
            carryLast(x);
        }
        due("queue(5, 7)", x.queue(5, 7), 16);
        due("queue(5, 6)", x.queue(5, 6), 16);
        due("queue(5, 5)", x.queue(5, 5), 0);
        due("queue(0, 7)", x.queue(0, 7), 0);
        x.act(5, 31, REFUSE, 0);
        due("queue(5, 6)", x.queue(5, 6), 15);
        for (int bad : ODD) {
            due("queue(" + bad + ", 7)", x.queue(bad, 7), NONE);
            due("queue(5, " + bad + ")", x.queue(5, bad), NONE);
        }
        due("queue(6, 7)", x.queue(6, 7), NONE);
        due("queue(5, 8)", x.queue(5, 8), NONE);
        LoanLetters y = offered(9);
        actAndCarry(y, 0, ACCEPT, 0);
        due("queue(1, 0), accepted", y.queue(1, 0), 1);
    }

    private static void settledLoans() {
        part = "promise 17";
        LoanLetters x = asked();
        for (int bad : ODD) {
            due("settled(" + bad + ")", x.settled(bad), false);
        }
        due("settled(1)", x.settled(1), false);
        due("settled(0), not known", x.settled(0), false);
        x.resend(1, 0);
        x.carry(1);
        due("settled(0)", x.settled(0), true);
        x.act(1, 0, REFUSE, 0);
        due("settled(0), a letter on the way", x.settled(0), false);
        carryLast(x);
        due("settled(0), of the next one", x.settled(0), false);
        LoanLetters y = unfilled();
        due("settled(0), UNFILLED", y.settled(0), false);
        y.resend(0, 0);
        due("carry of a BARE one", y.carry(y.letters() - 1), 0);
        due("settled(0), UNFILLED and known", y.settled(0), true);
    }

    public static void main(String[] args) {
        newObject();
        copiesAreAdded();
        loansAreRequested();
        rotaGoesRound();
        stepsOfWrongCallers();
        stepsByStates();
        lettersOfSteps();
        declineAsksNext();
        copiesThatCanBePromised();
        pricesThatCanBeAsked();
        renewalsAreGrantedThrice();
        recallMakesDueEarlier();
        chargeOfCheckIn();
        daysPass();
        lettersAreSentAgain();
        formerSuppliersSendAgain();
        rowHasItsLimit();
        carriedLetterMayBePushedOut();
        lettersAreCarried();
        lettersThatCross();
        lettersAreDropped();
        lettersAreRead();
        booksAreRead();
        whoHasTheCopy();
        bookTurnsToPresentSupplier();
        presentSupplier();
        holders();
        promises();
        balances();
        queues();
        settledLoans();
        System.out.println(wrong == 0 ? "all answers are as due" : wrong + " answers are not as due");
        if (wrong != 0) {
            System.exit(1);
        }
    }
}
