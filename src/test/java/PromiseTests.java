/** The promises of the document with ordinary inputs, one by one; their edges have tests of their own. */
public final class PromiseTests extends Stages {

    private static void newObject() {
        part("promise 1");
        LoanLetters x = new LoanLetters();
        dueLetters(x, 0);
        due("addCopy(4, 2)", x.addCopy(4, 2), 0);
        due("request(3, 2, 4, 7)", x.request(3, 2, 4, 7), 0);
        dueLetters(x, 1);
        dueLetters(new LoanLetters(), 0);
    }

    private static void copiesAreAdded() {
        part("promise 2");
        LoanLetters x = new LoanLetters();
        due("addCopy(4, 2)", x.addCopy(4, 2), 0);
        due("addCopy(4, 2), again", x.addCopy(4, 2), 1);
        due("addCopy(0, 7)", x.addCopy(0, 7), 2);
        due("holder(1)", x.holder(1), 4);
        due("holder(2)", x.holder(2), 0);
        dueLetters(x, 0);
    }

    private static void loansAreRequested() {
        part("promise 3");
        LoanLetters x = new LoanLetters();
        due("request(0, 7, 3, 99)", x.request(0, 7, 3, 99), 0);
        due("request(5, 0, 5, 1)", x.request(5, 0, 5, 1), 1);
        dueLetter(x, 0, 0, 0, 3, 1, 0, 1, 99);
        dueLetter(x, 1, 1, 5, 0, 1, 0, 1, 1);
        dueBook(x, 0, 0, STATE, 0);
        dueBook(x, 5, 1, STATE, 0);
    }

    /** A loan from its request to its end, with a price, a renewal granted and one denied, and a recall. */
    private static void stepsOfAWholeLoan() {
        part("promise 4");
        LoanLetters x = offered(77);
        dueLetter(x, 1, 0, 1, 0, 1, 1, 3, 77);
        x.act(0, 0, ACCEPT, 9);
        dueLetter(x, 2, 0, 0, 1, 2, 1, 5, 0);
        carryLast(x);
        dueStates(x, 0, 1);
        x.act(1, 0, PROMISE, 0);
        dueLetter(x, 3, 0, 1, 0, 2, 2, 2, 0);
        carryLast(x);
        dueStates(x, 2, 3);
        x.pass(1000);
        x.act(1, 0, SHIP, 5);
        dueLetter(x, 4, 0, 1, 0, 3, 2, 7, 1010);
        carryLast(x);
        dueStates(x, 3, 4);
        x.act(0, 0, RECEIVE, 5);
        dueLetter(x, 5, 0, 0, 1, 3, 3, 8, 0);
        carryLast(x);
        dueStates(x, 4, 5);
        x.act(0, 0, RENEW, 5);
        dueLetter(x, 6, 0, 0, 1, 4, 3, 9, 0);
        carryLast(x);
        dueStates(x, 5, 6);
        x.act(1, 0, GRANT, 5);
        dueLetter(x, 7, 0, 1, 0, 4, 4, 10, 1020);
        carryLast(x);
        dueStates(x, 4, 5);
        actAndCarry(x, 0, RENEW, 0);
        x.act(1, 0, DENY, 5);
        dueLetter(x, 9, 0, 1, 0, 5, 5, 10, 0);
        carryLast(x);
        dueStates(x, 4, 5);
        x.act(1, 0, RECALL, 5);
        dueLetter(x, 10, 0, 1, 0, 6, 5, 11, 1007);
        carryLast(x);
        dueStates(x, 6, 7);
        x.act(0, 0, GIVE_BACK, 5);
        dueLetter(x, 11, 0, 0, 1, 6, 6, 12, 0);
        carryLast(x);
        dueStates(x, 7, 8);
        x.pass(10);
        x.act(1, 0, CHECK_IN, 5);
        dueLetter(x, 12, 0, 1, 0, 7, 6, 13, 107);
        carryLast(x);
        dueWholeBook(x, 0, 0, 8, 1007, 77, 107, 6, 7, 6, 0);
        dueWholeBook(x, 1, 0, 9, 1007, 77, 107, 7, 6, 6, 0);
        due("balance(0)", x.balance(0), -107);
        due("balance(1)", x.balance(1), 107);
        due("holder(0)", x.holder(0), 1);
    }

    private static void stepsThatEndALoanEarly() {
        part("promise 4");
        LoanLetters lost = here();
        lost.act(0, 0, LOSE, 5);
        dueLetter(lost, 4, 0, 0, 1, 3, 2, 14, 0);
        due("holder(0)", lost.holder(0), LoanLetters.LOST);
        LoanLetters cancelled = asked();
        cancelled.act(0, 0, CANCEL, 5);
        dueLetter(cancelled, 1, 0, 0, 1, 2, 0, 15, 0);
        LoanLetters refused = asked();
        refused.act(1, 0, REFUSE, 5);
        dueLetter(refused, 1, 0, 1, 0, 1, 1, 4, 0);
    }

    private static void declineAsksOneAfterTheOther() {
        part("promise 4");
        LoanLetters x = offered(30);
        dueStep(x, 0, 0, DECLINE, 0, 0);
        due("carry(2)", x.carry(2), 1);
        dueBook(x, 1, 0, STATE, 10);
        for (int lib = 2; lib <= 5; lib++) {
            carryLast(x);
            actAndCarry(x, lib, CONDITION, lib);
            dueBook(x, 0, 0, PRICE, lib);
            dueStep(x, 0, 0, DECLINE, 0, lib == 5 ? 9 : 0);
            dueBook(x, 0, 0, PRICE, 0);
        }
    }

    private static void daysPass() {
        part("promise 5");
        LoanLetters x = promisedOne();
        due("pass(3)", x.pass(3), true);
        due("pass(30)", x.pass(30), true);
        x.act(1, 0, SHIP, 0);
        dueBook(x, 1, 0, DUE, 43);
        dueLetters(x, 3);
    }

    private static void lettersAreSentAgain() {
        part("promise 6");
        LoanLetters x = asked();
        due("resend(0, 0)", x.resend(0, 0), 2);
        dueLetter(x, 1, 0, 0, 1, 1, 0, 1, 10);
        dueLetter(x, 2, 0, 0, 1, 0, 0, 0, 0);
        due("resend(1, 0)", x.resend(1, 0), 1);
        dueLetter(x, 3, 0, 1, 0, 0, 1, 0, 0);
        dueCarry(x, 3, 0);
        dueBook(x, 0, 0, ACKED, 1);
        due("resend(0, 0)", x.resend(0, 0), 1);
        x.act(1, 0, PROMISE, 0);
        x.act(1, 0, SHIP, 0);
        x.act(0, 0, CANCEL, 0);
        carryLast(x);
        due("resend(1, 0)", x.resend(1, 0), 3);
        dueLetter(x, 8, 0, 1, 0, 1, 2, 2, 0);
        dueLetter(x, 9, 0, 1, 0, 2, 2, 7, 10);
        dueLetter(x, 10, 0, 1, 0, 0, 2, 0, 0);
        dueLetters(x, 11);
    }

    private static void lettersAreCarried() {
        part("promises 7 and 8");
        LoanLetters x = sent();
        dueCarry(x, 0, 1);
        x.act(1, 0, CONDITION, 40);
        carryLast(x);
        x.act(0, 0, ACCEPT, 0);
        x.act(0, 0, CANCEL, 0);
        dueLetters(x, 4);
        dueCarry(x, 3, 0);
        dueBook(x, 1, 0, STATE, 2);
        due("drop(3)", x.drop(3), true);
        dueCarry(x, 2, 2);
        dueBook(x, 1, 0, STATE, 11);
        dueLetter(x, 3, 0, 1, 0, 2, 3, 16, 0);
        dueCarry(x, 3, 1);
        dueStates(x, 11, 11);
        dueWholeBook(x, 0, 0, 11, 0, 40, 0, 3, 2, 3, 0);
    }

    private static void lettersAreDropped() {
        part("promise 9");
        LoanLetters x = new LoanLetters();
        for (int k = 0; k < 4; k++) {
            x.request(0, 0, 1, k + 1);
        }
        due("drop(1)", x.drop(1), true);
        dueLetter(x, 0, 0, 0, 1, 1, 0, 1, 1);
        dueLetter(x, 1, 2, 0, 1, 1, 0, 1, 3);
        dueLetter(x, 2, 3, 0, 1, 1, 0, 1, 4);
        dueLetters(x, 3);
    }

    private static void lettersAreRead() {
        part("promise 10");
        LoanLetters x = sent();
        x.request(4, 6, 2, 50);
        dueCarry(x, 1, 1);
        x.act(2, 1, CONDITION, 999);
        dueLetter(x, 0, 0, 0, 1, 1, 0, 1, 10);
        dueLetter(x, 1, 1, 4, 2, 1, 0, 1, 50);
        dueLetter(x, 2, 1, 2, 4, 1, 1, 3, 999);
    }

    private static void booksAreRead() {
        part("promise 11");
        LoanLetters x = accepted(60);
        actAndCarry(x, 1, PROMISE, 0);
        dueWholeBook(x, 0, 0, 2, 0, 60, 0, 2, 2, 2, 0);
        dueWholeBook(x, 1, 0, 3, 0, 60, 0, 2, 2, 1, 1);
        dueWholeBook(x, 2, 0, NONE, NONE, NONE, NONE, NONE, NONE, NONE, NONE);
    }

    private static void supplierHolderAndPromise() {
        part("promises 12 to 14");
        LoanLetters x = asked();
        due("supplier(0)", x.supplier(0), 1);
        due("holder(0)", x.holder(0), 1);
        due("promised(0)", x.promised(0), NONE);
        actAndCarry(x, 1, PROMISE, 0);
        due("promised(0)", x.promised(0), 0);
        actAndCarry(x, 1, SHIP, 0);
        due("holder(0)", x.holder(0), LoanLetters.POST);
        actAndCarry(x, 0, RECEIVE, 0);
        due("holder(0)", x.holder(0), 0);
        due("supplier(0)", x.supplier(0), 1);
    }

    private static void balancesAddUp() {
        part("promise 15");
        LoanLetters x = back();
        x.pass(500);
        actAndCarry(x, 1, CHECK_IN, 0);
        due("balance(0)", x.balance(0), -4900);
        due("balance(1)", x.balance(1), 4900);
        x.request(2, 0, 1, 10);
        carryLast(x);
        int[] libs = {1, 1, 2, 2};
        int[] steps = {PROMISE, SHIP, RECEIVE, LOSE};
        for (int k = 0; k < steps.length; k++) {
            x.act(libs[k], 1, steps[k], 0);
            carryLast(x);
        }
        due("balance(0)", x.balance(0), -4900);
        due("balance(1)", x.balance(1), 8900);
        due("balance(2)", x.balance(2), -4000);
    }

    private static void queuesAreCounted() {
        part("promise 16");
        LoanLetters x = new LoanLetters();
        for (int k = 0; k < 10; k++) {
            x.request(0, k % 3 == 0 ? 7 : 6, 5, 1);
            carryLast(x);
        }
        due("queue(5, 7)", x.queue(5, 7), 4);
        due("queue(5, 6)", x.queue(5, 6), 6);
        due("queue(5, 5)", x.queue(5, 5), 0);
        due("queue(0, 7)", x.queue(0, 7), 0);
        LoanLetters y = accepted(9);
        due("queue(1, 0), accepted", y.queue(1, 0), 1);
    }

    private static void loansAreSettled() {
        part("promise 17");
        LoanLetters x = closed();
        due("settled(0)", x.settled(0), false);
        x.resend(0, 0);
        dueCarry(x, x.letters() - 1, 0);
        due("settled(0)", x.settled(0), true);
    }

    public static void main(String[] args) {
        runTestsOf(PromiseTests.class);
    }
}
