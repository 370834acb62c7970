/** Sentences about the steps of clerks: the states in which a step can't be done, and the bounds of what it reckons. */
public final class StepEdges extends Sentences {
    private static final int[] DAYS_TO_DUE = {-1, 0, 1, 990};

    // ---- promise 4: the states of each step ----

    /**
     * In each of the states of who does it: the new state, and a letter with this kind and number, where the step
     * can be done; else it can't, and no letter is sent.
     */
    private static void dueInStates(int step, int kind, int told, int newState, int... states) {
        int lib = step <= 6 ? 0 : 1;
        int arg = step == CONDITION ? 1000 : 0;
        for (int k = 0; k < STAGES; k++) {
            LoanLetters x = stage(k);
            int before = x.letters();
            int own = lib == 0 ? ASKER_STATES[k] : LENDER_STATES[k];
            if (isOneOf(own, states)) {
                int number = x.book(lib, 0, SENT) + 1;
                int seen = x.book(lib, 0, SEEN);
                dueStep(x, lib, 0, step, arg, newState);
                dueBook(x, lib, 0, STATE, newState);
                dueLetter(x, before, 0, lib, 1 - lib, number, seen, kind, told);
            } else {
                notNow(x, lib, 0, step, arg);
                dueBook(x, lib, 0, STATE, own);
                dueLetters(x, before);
            }
        }
    }

    private static boolean isOneOf(int own, int[] states) {
        for (int state : states) {
            if (state == own) {
                return true;
            }
        }
        return false;
    }

    private static void statesOfTheRequester() {
        sentence(11, "REQUESTER's states: 0 ASKING, 1 CONDITION, 2 PROMISED, 3 COMING, 4 HERE, 5 RENEWING, 6 RECALLED, "
            + "7 BACK, 8 CLOSED, 9 UNFILLED, 10 CANCELLING, 11 CANCELLED, 12 LOST.");
        for (int k = 0; k < STAGES; k++) {
            dueBook(stage(k), 0, 0, STATE, ASKER_STATES[k]);
        }
        for (int state = 0; state <= 12; state++) {
            due("there is a stage of state " + state, isOneOf(state, ASKER_STATES), true);
        }
    }

    private static void statesOfTheSupplier() {
        sentence(11, "SUPPLIER's: 0 NONE, 1 ASKED, 2 OFFERED, 3 PROMISED, 4 SHIPPED, 5 OUT, 6 RENEWAL, 7 WANTED, "
            + "8 RETURNING, 9 CLOSED, 10 REFUSED, 11 CANCELLED, 12 LOST.");
        for (int k = 0; k < STAGES; k++) {
            dueBook(stage(k), 1, 0, STATE, LENDER_STATES[k]);
        }
        for (int state = 0; state <= 12; state++) {
            due("there is a stage of state " + state, isOneOf(state, LENDER_STATES), true);
        }
    }

    private static void acceptInStates() {
        sentence(4, "0 accept: CONDITION: ASKING, ACCEPT.");
        dueInStates(ACCEPT, 5, 0, 0, 1);
    }

    private static void declineInStates() {
        sentence(4, "1 decline: CONDITION: DECLINE; the NEXT one.");
        dueInStates(DECLINE, 6, 0, 0, 1);
    }

    private static void cancelInStates() {
        sentence(4, "2 cancel: ASKING, CONDITION, PROMISED: CANCELLING, CANCEL.");
        dueInStates(CANCEL, 15, 0, 10, 0, 1, 2);
    }

    private static void receiveInStates() {
        sentence(4, "3 receive: COMING: HERE, RECEIVED; the copy's holder is the requester.");
        dueInStates(RECEIVE, 8, 0, 4, 3);
    }

    private static void renewInStates() {
        sentence(4, "4 renew: HERE: RENEWING, RENEW.");
        dueInStates(RENEW, 9, 0, 5, 4);
    }

    private static void giveBackInStates() {
        sentence(4, "5 give back: HERE, RENEWING, RECALLED: BACK, RETURNED; its holder is the POST.");
        dueInStates(GIVE_BACK, 12, 0, 7, 4, 5, 6);
    }

    private static void loseInStates() {
        sentence(4, "6 lose: HERE, RENEWING, RECALLED: LOST, LOST; the copy is LOST, the balance 4000 less.");
        dueInStates(LOSE, 14, 0, 12, 4, 5, 6);
    }

    private static void promiseInStates() {
        sentence(4, "7 promise (a copy): ASKED, if the copy is of the title, at home there and held there, and not "
            + "promised for another loan: PROMISED, PROMISE.");
        dueInStates(PROMISE, 2, 0, 3, 1);
    }

    private static void conditionInStates() {
        sentence(4, "ASKED, unless it has a price: OFFERED, CONDITION; it has that price.");
        dueInStates(CONDITION, 3, 1000, 2, 1);
    }

    private static void refuseInStates() {
        sentence(4, "9 refuse: ASKED: REFUSED, REFUSE.");
        dueInStates(REFUSE, 4, 0, 10, 1);
    }

    private static void shipInStates() {
        sentence(4, "10 ship: PROMISED: SHIPPED, SHIPPED; due the days after today; the copy's holder is the POST.");
        dueInStates(SHIP, 7, 10, 4, 3);
    }

    private static void grantInStates() {
        sentence(4, "11 grant: RENEWAL, if fewer than three were granted: OUT, RENEWED; due as many days later as were "
            + "asked for.");
        dueInStates(GRANT, 10, 20, 5, 6);
    }

    private static void denyInStates() {
        sentence(4, "12 deny: RENEWAL: OUT, RENEWED (0).");
        dueInStates(DENY, 10, 0, 5, 6);
    }

    private static void recallInStates() {
        sentence(4, "13 recall: OUT, RENEWAL: WANTED, RECALL; due becomes today and 7, if that is less.");
        dueInStates(RECALL, 11, 7, 7, 5, 6);
    }

    private static void checkInInStates() {
        sentence(4, "14 check in: RETURNING: CLOSED, CHECKED; the copy's holder is its home");
        dueInStates(CHECK_IN, 13, 0, 9, 8);
    }

    // ---- promise 4: the copy that is promised ----

    private static void copyOfAnotherTitle() {
        sentence(4, "if the copy is of the title");
        LoanLetters x = asked();
        due("addCopy(1, 7)", x.addCopy(1, 7), 1);
        notNow(x, 1, 0, PROMISE, 1);
        dueStep(x, 1, 0, PROMISE, 0, 3);
    }

    private static void copyAtHomeElsewhere() {
        sentence(4, "at home there and held there");
        LoanLetters x = asked();
        due("addCopy(0, 0)", x.addCopy(0, 0), 1);
        due("addCopy(2, 0)", x.addCopy(2, 0), 2);
        notNow(x, 1, 0, PROMISE, 1);
        notNow(x, 1, 0, PROMISE, 2);
        dueStep(x, 1, 0, PROMISE, 0, 3);
    }

    private static void copyHeldButAtHomeElsewhere() {
        sentence(4, "at home there and held there");
        LoanLetters x = here();
        due("holder(0)", x.holder(0), 0);
        due("request(2, 0, 0, 5)", x.request(2, 0, 0, 5), 1);
        carryLast(x);
        notNow(x, 0, 1, PROMISE, 0);
        dueStep(x, 0, 1, REFUSE, 0, 10);
    }

    private static void copyAtHomeButLost() {
        sentence(4, "at home there and held there");
        LoanLetters x = lostOne();
        due("promised(0)", x.promised(0), NONE);
        due("request(2, 0, 1, 5)", x.request(2, 0, 1, 5), 1);
        carryLast(x);
        notNow(x, 1, 1, PROMISE, 0);
    }

    /** Loan 0 at the stage, and loan 1 of the same title asked for at library 1 as well. */
    private static LoanLetters withSecondLoan(LoanLetters x) {
        due("request(2, 0, 1, 5)", x.request(2, 0, 1, 5), 1);
        carryLast(x);
        return x;
    }

    private static void copyPromisedForAnotherLoan() {
        sentence(4, "and not promised for another loan");
        for (int k = 3; k <= 8; k++) {
            LoanLetters x = withSecondLoan(stage(k));
            due("promised(0)", x.promised(0), 0);
            notNow(x, 1, 1, PROMISE, 0);
            due("promised(0)", x.promised(0), 0);
        }
    }

    private static void copyPromisedNoMore() {
        sentence(4, "and not promised for another loan");
        LoanLetters[] free = {withSecondLoan(closed()), withSecondLoan(cancelled()), withSecondLoan(offered(5))};
        for (LoanLetters x : free) {
            dueStep(x, 1, 1, PROMISE, 0, 3);
            due("promised(0)", x.promised(0), 1);
        }
    }

    // ---- promise 4: prices, days, cents ----

    private static void conditionWithAPrice() {
        sentence(4, "ASKED, unless it has a price");
        LoanLetters x = accepted(1);
        dueStates(x, 0, 1);
        notNow(x, 1, 0, CONDITION, 1);
        notNow(x, 1, 0, CONDITION, 1000);
        dueBook(x, 1, 0, PRICE, 1);
        dueStep(x, 1, 0, PROMISE, 0, 3);
    }

    private static void priceOfEachSupplierAnew() {
        sentence(4, "(all 0 at first, of each supplier anew)");
        LoanLetters x = offered(30);
        x.act(0, 0, DECLINE, 0);
        carryLast(x);
        dueBook(x, 1, 0, PRICE, 30);
        dueBook(x, 2, 0, PRICE, 0);
        dueStep(x, 2, 0, CONDITION, 1000, 2);
        dueBook(x, 2, 0, PRICE, 1000);
    }

    private static void shipForFewestAndMostDays() {
        sentence(4, "due the days after today");
        for (int days : new int[] {1, 99}) {
            LoanLetters x = new LoanLetters();
            x.addCopy(1, 0);
            x.request(0, 0, 1, days);
            carryLast(x);
            actAndCarry(x, 1, PROMISE, 0);
            x.pass(3);
            actAndCarry(x, 1, SHIP, 0);
            dueBook(x, 1, 0, DUE, 3 + days);
            dueBook(x, 0, 0, DUE, 3 + days);
        }
    }

    private static void renewAndAnswer(LoanLetters x, int answer) {
        actAndCarry(x, 0, RENEW, 0);
        actAndCarry(x, 1, answer, 0);
        dueStates(x, 4, 5);
    }

    private static void fourthRenewalIsNotGranted() {
        sentence(4, "if fewer than three were granted");
        LoanLetters x = here();
        for (int k = 1; k <= 3; k++) {
            renewAndAnswer(x, GRANT);
            dueBook(x, 1, 0, DUE, 10 + 10 * k);
        }
        actAndCarry(x, 0, RENEW, 0);
        notNow(x, 1, 0, GRANT, 0);
        notNow(x, 1, 0, GRANT, 0);
        dueBook(x, 1, 0, STATE, 6);
        dueBook(x, 1, 0, DUE, 40);
        dueStep(x, 1, 0, DENY, 0, 5);
    }

    private static void deniedRenewalsAreNotGranted() {
        sentence(4, "if fewer than three were granted");
        LoanLetters x = here();
        for (int k = 0; k < 5; k++) {
            renewAndAnswer(x, DENY);
        }
        dueBook(x, 1, 0, DUE, 10);
        for (int k = 1; k <= 3; k++) {
            renewAndAnswer(x, GRANT);
            dueBook(x, 1, 0, DUE, 10 + 10 * k);
        }
    }

    private static void renewalsOfAnotherLoanDoNotCount() {
        sentence(4, "if fewer than three were granted");
        LoanLetters x = here();
        for (int k = 0; k < 3; k++) {
            renewAndAnswer(x, GRANT);
        }
        x.addCopy(1, 0);
        x.request(0, 0, 1, 99);
        carryLast(x);
        int[] libs = {1, 1, 0, 0, 1};
        int[] steps = {PROMISE, SHIP, RECEIVE, RENEW, GRANT};
        int[] states = {3, 4, 4, 5, 5};
        for (int k = 0; k < steps.length; k++) {
            dueStep(x, libs[k], 1, steps[k], 1, states[k]);
            carryLast(x);
        }
        dueBook(x, 0, 1, DUE, 198);
    }

    private static void grantReckonsFromDue() {
        sentence(4, "due as many days later as were asked for");
        LoanLetters x = renewing();
        x.pass(500);
        actAndCarry(x, 1, GRANT, 0);
        dueBook(x, 1, 0, DUE, 20);
        dueBook(x, 0, 0, DUE, 20);
    }

    private static void recallOnDay(int day, int want) {
        LoanLetters x = here();
        if (day > 0) {
            x.pass(day);
        }
        actAndCarry(x, 1, RECALL, 0);
        dueBook(x, 1, 0, DUE, want);
        dueBook(x, 0, 0, DUE, want);
    }

    private static void recallBeforeDue() {
        sentence(4, "due becomes today and 7, if that is less");
        recallOnDay(0, 7);
        recallOnDay(2, 9);
    }

    private static void recallJustAtDue() {
        sentence(4, "due becomes today and 7, if that is less");
        recallOnDay(3, 10);
    }

    private static void recallTooLateForDue() {
        sentence(4, "due becomes today and 7, if that is less");
        recallOnDay(4, 10);
        recallOnDay(1000, 10);
    }

    private static void chargeForEachDayAboveDue() {
        sentence(4, "the charge is 10 for each day that today is above due");
        int[] charges = {0, 0, 10, 9900};
        for (int k = 0; k < charges.length; k++) {
            LoanLetters x = back();
            x.pass(10 + DAYS_TO_DUE[k]);
            x.act(1, 0, CHECK_IN, 0);
            dueBook(x, 1, 0, CHARGE, charges[k]);
            dueLetter(x, 5, 0, 1, 0, 3, 3, 13, charges[k]);
            due("balance(1)", x.balance(1), charges[k]);
        }
    }

    private static void chargeWithThePrice() {
        sentence(4, "and the price; the balance is that more");
        int[] charges = {1000, 1000, 1010, 10900};
        for (int k = 0; k < charges.length; k++) {
            LoanLetters x = accepted(1000);
            actAndCarry(x, 1, PROMISE, 0);
            actAndCarry(x, 1, SHIP, 0);
            actAndCarry(x, 0, RECEIVE, 0);
            actAndCarry(x, 0, GIVE_BACK, 0);
            x.pass(10 + DAYS_TO_DUE[k]);
            x.act(1, 0, CHECK_IN, 0);
            dueBook(x, 1, 0, CHARGE, charges[k]);
            due("balance(1)", x.balance(1), charges[k]);
            due("balance(0), not taken yet", x.balance(0), 0);
            carryLast(x);
            dueBook(x, 0, 0, CHARGE, charges[k]);
            due("balance(0)", x.balance(0), -charges[k]);
        }
    }

    private static void chargeAfterARecall() {
        sentence(4, "the charge is 10 for each day that today is above due");
        LoanLetters x = recalled();
        actAndCarry(x, 0, GIVE_BACK, 0);
        x.pass(8);
        x.act(1, 0, CHECK_IN, 0);
        dueBook(x, 1, 0, CHARGE, 10);
    }

    private static void lossIsPaidOnce() {
        sentence(15, "6 lose: HERE, RENEWING, RECALLED: LOST, LOST; the copy is LOST, the balance 4000 less.");
        for (int k = 5; k <= 7; k++) {
            LoanLetters x = stage(k);
            x.act(0, 0, LOSE, 0);
            due("balance(0)", x.balance(0), -4000);
            due("balance(1), not taken yet", x.balance(1), 0);
            carryLast(x);
            dueCarry(x, x.letters() - 1, 0);
            notNow(x, 0, 0, LOSE, 0);
            due("balance(0)", x.balance(0), -4000);
            due("balance(1)", x.balance(1), 4000);
        }
    }

    // ---- promises 3, 4 and 12: the rota ----

    /** The libraries that are asked, one after the other, when each refuses; then the loan is UNFILLED. */
    private static void dueRota(int requester, int start, int... rota) {
        LoanLetters x = new LoanLetters();
        x.request(requester, 4, start, 8);
        for (int lib : rota) {
            due("supplier(0) of " + requester + " from " + start, x.supplier(0), lib);
            dueBook(x, requester, 0, STATE, 0);
            carryLast(x);
            x.act(lib, 0, REFUSE, 0);
            carryLast(x);
        }
        dueBook(x, requester, 0, STATE, 9);
        dueLetters(x, 2 * rota.length);
    }

    private static void rotaBehindFive() {
        sentence(3, "the library told, the next ones (behind 5 comes 0)");
        dueRota(3, 5, 5, 0, 1, 2, 4);
        dueRota(1, 4, 4, 5, 0, 2, 3);
    }

    private static void rotaWithoutTheRequester() {
        sentence(3, "without the requester");
        dueRota(0, 5, 5, 1, 2, 3, 4);
        dueRota(5, 4, 4, 0, 1, 2, 3);
        dueRota(2, 1, 1, 3, 4, 5, 0);
    }

    private static void rotaFromTheRequester() {
        sentence(3, "without the requester");
        dueRota(5, 5, 0, 1, 2, 3, 4);
        dueRota(0, 0, 1, 2, 3, 4, 5);
        dueRota(3, 3, 4, 5, 0, 1, 2);
    }

    private static void rotaOfFiveAtMost() {
        sentence(3, "five at most; they are asked one after the other");
        for (int requester = 0; requester < 6; requester++) {
            for (int start = 0; start < 6; start++) {
                int[] rota = new int[5];
                int size = 0;
                for (int lib = start; lib < start + 6; lib++) {
                    if (lib % 6 != requester) {
                        rota[size++] = lib % 6;
                    }
                }
                dueRota(requester, start, rota);
            }
        }
    }

    private static void nextAfterDecline() {
        sentence(4, "the next library of the rota is sent a REQUEST: ASKING");
        LoanLetters x = offered(30);
        dueStep(x, 0, 0, DECLINE, 0, 0);
        dueLetters(x, 4);
        dueLetter(x, 2, 0, 0, 1, 2, 1, 6, 0);
        dueLetter(x, 3, 0, 0, 2, 1, 0, 1, 10);
        due("supplier(0)", x.supplier(0), 2);
    }

    private static LoanLetters lastOneOffers() {
        LoanLetters x = offered(30);
        for (int lib = 2; lib <= 5; lib++) {
            dueStep(x, 0, 0, DECLINE, 0, 0);
            carryLast(x);
            actAndCarry(x, lib, CONDITION, 30 + lib);
        }
        return x;
    }

    private static void noNextAfterDecline() {
        sentence(4, "if there is none: UNFILLED");
        LoanLetters x = lastOneOffers();
        int before = x.letters();
        dueStep(x, 0, 0, DECLINE, 0, 9);
        dueLetters(x, before + 1);
        dueLetter(x, before, 0, 0, 5, 2, 1, 6, 0);
        dueBook(x, 0, 0, STATE, 9);
        carryLast(x);
        dueBook(x, 5, 0, STATE, 10);
    }

    private static void noNextAfterRefuse() {
        sentence(8, "if there is none: UNFILLED");
        LoanLetters x = lastOneOffers();
        actAndCarry(x, 0, ACCEPT, 0);
        int before = x.letters();
        actAndCarry(x, 5, REFUSE, 0);
        dueLetters(x, before + 1);
        dueBook(x, 0, 0, STATE, 9);
        dueBook(x, 0, 0, PRICE, 0);
    }

    private static void priceIsGoneWithTheNext() {
        sentence(4, "(its DUE, PRICE and charge are 0 again in either case)");
        LoanLetters x = offered(30);
        dueBook(x, 0, 0, PRICE, 30);
        x.act(0, 0, DECLINE, 0);
        dueWholeBook(x, 0, 0, 0, 0, 0, 0, 1, 0, 0, 0);
        LoanLetters y = lastOneOffers();
        dueBook(y, 0, 0, PRICE, 35);
        y.act(0, 0, DECLINE, 0);
        dueWholeBook(y, 0, 0, 9, 0, 0, 0, 2, 1, 1, 0);
    }

    private static void priceIsGoneWithARefusal() {
        sentence(8, "(its DUE, PRICE and charge are 0 again in either case)");
        LoanLetters x = accepted(30);
        dueBook(x, 0, 0, PRICE, 30);
        actAndCarry(x, 1, REFUSE, 0);
        dueWholeBook(x, 0, 0, 0, 0, 0, 0, 1, 0, 0, 0);
        dueBook(x, 1, 0, PRICE, 30);
    }

    private static void presentSupplierOfAnUnfilledLoan() {
        sentence(12, "The present supplier of a loan (the one asked last)");
        LoanLetters x = unfilled();
        due("supplier(0)", x.supplier(0), 5);
        LoanLetters y = lastOneOffers();
        y.act(0, 0, DECLINE, 0);
        due("supplier(0)", y.supplier(0), 5);
    }

    private static void presentSupplierWhileRefuseIsOnTheWay() {
        sentence(12, "The present supplier of a loan (the one asked last)");
        LoanLetters x = asked();
        x.act(1, 0, REFUSE, 0);
        due("supplier(0)", x.supplier(0), 1);
        carryLast(x);
        due("supplier(0)", x.supplier(0), 2);
    }

    // ---- promises 11, 13, 14 ----

    private static void whoHasTheCopy() {
        sentence(11, "7 whether it has the copy: HERE, RENEWING, RECALLED, or, of a supplier, PROMISED (1, else 0)");
        for (int k = 0; k < STAGES; k++) {
            LoanLetters x = stage(k);
            dueBook(x, 0, 0, HAS, ASKER_STATES[k] >= 4 && ASKER_STATES[k] <= 6 ? 1 : 0);
            dueBook(x, 1, 0, HAS, LENDER_STATES[k] == 3 ? 1 : 0);
        }
    }

    private static void holderAtEachStage() {
        sentence(13, "a copy's HOLDER is a library (at first its home), the POST, or it is LOST");
        int post = LoanLetters.POST;
        int[] holders = {1, 1, 1, 1, post, 0, 0, 0, post, 1, LoanLetters.LOST, 1, 1, 1};
        for (int k = 0; k < STAGES; k++) {
            due("holder(0) at stage " + k, stage(k).holder(0), holders[k]);
        }
    }

    private static void holderThatIsNoLibrary() {
        sentence(13, "`POST = 6, LOST = 7`: A copy's holder: it is on the way; it is lost.");
        due("POST", LoanLetters.POST, 6);
        due("LOST", LoanLetters.LOST, 7);
        due("holder(0), on the way", shipped().holder(0), 6);
        due("holder(0), on the way back", back().holder(0), 6);
        due("holder(0), lost", lostOne().holder(0), 7);
    }

    private static void promisedAtEachStage() {
        sentence(14, "A copy is PROMISED for a loan from step 7 on, until its supplier's state is CLOSED, CANCELLED or "
            + "LOST.");
        int[] loans = {NONE, NONE, NONE, 0, 0, 0, 0, 0, 0, NONE, NONE, NONE, NONE, 0};
        for (int k = 0; k < STAGES; k++) {
            due("promised(0) at stage " + k, stage(k).promised(0), loans[k]);
        }
    }

    private static void promisedUntilTheSupplierKnows() {
        sentence(14, "until its supplier's state is CLOSED, CANCELLED or LOST");
        int[] steps = {LOSE, CANCEL};
        LoanLetters[] objects = {here(), promisedOne()};
        for (int k = 0; k < steps.length; k++) {
            LoanLetters x = objects[k];
            x.act(0, 0, steps[k], 0);
            due("promised(0), the letter on the way", x.promised(0), 0);
            carryLast(x);
            due("promised(0), the letter taken", x.promised(0), NONE);
        }
        LoanLetters x = back();
        due("promised(0), RETURNING", x.promised(0), 0);
        x.act(1, 0, CHECK_IN, 0);
        due("promised(0), CHECKED on the way", x.promised(0), NONE);
    }

    private static void promisedForALoanThatIsNotTheFirst() {
        sentence(14, "The loan that a copy is PROMISED for");
        LoanLetters x = new LoanLetters();
        x.addCopy(0, 0);
        x.addCopy(5, 7);
        for (int k = 0; k < 32; k++) {
            x.request(k % 5, 7, 5, 1);
        }
        dueCarry(x, 31, 1);
        dueStep(x, 5, 31, PROMISE, 1, 3);
        due("promised(1)", x.promised(1), 31);
        due("promised(0)", x.promised(0), NONE);
    }

    public static void main(String[] args) {
        runTestsOf(StepEdges.class);
    }
}
