/** Sentences about what is empty, full, too small or too large: numbers that are told, and limits. */
public final class ArgumentEdges extends Sentences {

    // ---- promise 1 ----

    private static void nothingIsThereAtFirst() {
        sentence(1, "No copies, loans, letters.");
        LoanLetters x = new LoanLetters();
        dueLetters(x, 0);
        due("carry(0)", x.carry(0), NONE);
        due("drop(0)", x.drop(0), false);
        due("letter(0, 0)", x.letter(0, 0), NONE);
        due("holder(0)", x.holder(0), NONE);
        due("promised(0)", x.promised(0), NONE);
        due("supplier(0)", x.supplier(0), NONE);
        due("settled(0)", x.settled(0), false);
        dueBook(x, 0, 0, STATE, NONE);
        badArgument("resend(0, 0)", () -> x.resend(0, 0));
        badArgument(x, 0, 0, CANCEL, 0);
        badArgument(x, 0, 0, REFUSE, 0);
        for (int lib = 0; lib < 6; lib++) {
            for (int title = 0; title < 8; title++) {
                due(named("queue", lib, title), x.queue(lib, title), 0);
            }
        }
    }

    private static void objectsShareNothing() {
        sentence(1, "No copies, loans, letters.");
        LoanLetters old = here();
        old.pass(100);
        LoanLetters x = new LoanLetters();
        dueLetters(x, 0);
        due("holder(0)", x.holder(0), NONE);
        due("supplier(0)", x.supplier(0), NONE);
        due("addCopy(1, 0)", x.addCopy(1, 0), 0);
        due("request(0, 0, 1, 1)", x.request(0, 0, 1, 1), 0);
        due("holder(0) of the old object", old.holder(0), 0);
    }

    private static void firstDay() {
        sentence(1, "The DAY is 0 at first.");
        LoanLetters x = promisedOne();
        x.act(1, 0, SHIP, 0);
        dueBook(x, 1, 0, DUE, 10);
    }

    private static void firstBalances() {
        sentence(1, "Each library has a BALANCE in cents, at first 0.");
        LoanLetters x = new LoanLetters();
        for (int lib = 0; lib < 6; lib++) {
            due(named("balance", lib), x.balance(lib), 0);
        }
    }

    private static void valueOfNone() {
        sentence(1, "The constants: `NONE = -1`: None.");
        due("NONE", LoanLetters.NONE, -1);
    }

    // ---- promise 2 ----

    private static void copiesOfAllLibrariesAndTitles() {
        sentence(2, "LIBRARIES 0 .. 5, TITLES 0 .. 7");
        LoanLetters x = new LoanLetters();
        int copy = 0;
        for (int lib = 0; lib <= 5; lib++) {
            for (int title : new int[] {0, 1, 6, 7}) {
                due(named("addCopy", lib, title), x.addCopy(lib, title), copy);
                due(named("holder", copy), x.holder(copy), lib);
                copy++;
            }
        }
    }

    private static void copyOfNoLibrary() {
        sentence(2, "IllegalArgumentException: there is no such library or title.");
        LoanLetters x = new LoanLetters();
        for (int lib : outside(6)) {
            badArgument(named("addCopy", lib, 0), () -> x.addCopy(lib, 0));
        }
        due("addCopy(5, 0), the first", x.addCopy(5, 0), 0);
    }

    private static void copyOfNoTitle() {
        sentence(2, "IllegalArgumentException: there is no such library or title.");
        LoanLetters x = new LoanLetters();
        for (int title : outside(8)) {
            badArgument(named("addCopy", 0, title), () -> x.addCopy(0, title));
        }
        due("addCopy(0, 7), the first", x.addCopy(0, 7), 0);
    }

    private static LoanLetters withCopies(int count) {
        LoanLetters x = new LoanLetters();
        for (int k = 0; k < count; k++) {
            due("addCopy, with " + k, x.addCopy(k % 6, k % 8), k);
        }
        return x;
    }

    private static void copiesAreNumberedAsAdded() {
        sentence(2, "at most 32 COPIES, numbered as they are added, each at home in a library");
        LoanLetters x = withCopies(32);
        for (int k = 0; k < 32; k++) {
            due(named("holder", k), x.holder(k), k % 6);
        }
        due("holder(32)", x.holder(32), NONE);
    }

    private static void copyTooMany() {
        sentence(2, "IllegalStateException: there are 32.");
        LoanLetters x = withCopies(31);
        due("addCopy, the 32nd", answer(() -> x.addCopy(5, 7)), 31);
        notNow("addCopy, the 33rd", () -> x.addCopy(0, 0));
        notNow("addCopy, again", () -> x.addCopy(5, 7));
        due("holder(32)", x.holder(32), NONE);
        due("holder(31)", x.holder(31), 5);
    }

    private static void wrongCopyTooMany() {
        sentence(2, "IllegalArgumentException: there is no such library or title.");
        LoanLetters x = withCopies(32);
        badArgument("addCopy(6, 0), the 33rd", () -> x.addCopy(6, 0));
        badArgument("addCopy(0, 8), the 33rd", () -> x.addCopy(0, 8));
    }

    // ---- promise 3 ----

    private static void loanOfNoLibrary() {
        sentence(3, "IllegalArgumentException: there is no such library, title, beginning of the rota, or days.");
        LoanLetters x = new LoanLetters();
        for (int lib : outside(6)) {
            badArgument(named("request", lib, 0, 0, 1), () -> x.request(lib, 0, 0, 1));
        }
        dueLetters(x, 0);
        due("request(5, 0, 0, 1), the first", x.request(5, 0, 0, 1), 0);
    }

    private static void loanOfNoTitle() {
        sentence(3, "IllegalArgumentException: there is no such library, title, beginning of the rota, or days.");
        LoanLetters x = new LoanLetters();
        for (int title : outside(8)) {
            badArgument(named("request", 0, title, 0, 1), () -> x.request(0, title, 0, 1));
        }
        dueLetters(x, 0);
        due("request(0, 7, 0, 1), the first", x.request(0, 7, 0, 1), 0);
    }

    private static void loanOfNoBeginning() {
        sentence(3, "IllegalArgumentException: there is no such library, title, beginning of the rota, or days.");
        LoanLetters x = new LoanLetters();
        for (int start : outside(6)) {
            badArgument(named("request", 0, 0, start, 1), () -> x.request(0, 0, start, 1));
        }
        dueLetters(x, 0);
        due("request(0, 0, 5, 1), the first", x.request(0, 0, 5, 1), 0);
    }

    private static void loanOfTooManyOrTooFewDays() {
        sentence(3, "days that are asked for (1 .. 99)");
        LoanLetters x = new LoanLetters();
        for (int days : outside(100)) {
            badArgument(named("request", 0, 0, 1, days), () -> x.request(0, 0, 1, days));
        }
        badArgument("request(0, 0, 1, 0)", () -> x.request(0, 0, 1, 0));
        dueLetters(x, 0);
        due("request(0, 0, 1, 1)", x.request(0, 0, 1, 1), 0);
        dueLetter(x, 0, 0, 0, 1, 1, 0, 1, 1);
        due("request(0, 0, 1, 99)", x.request(0, 0, 1, 99), 1);
        dueLetter(x, 1, 1, 0, 1, 1, 0, 1, 99);
    }

    private static LoanLetters withLoans(int count) {
        LoanLetters x = new LoanLetters();
        for (int k = 0; k < count; k++) {
            due("request, with " + k, x.request(1, k % 8, 2, k + 1), k);
        }
        return x;
    }

    private static void loansAreNumberedFromZero() {
        sentence(3, "LOANS, at most 32, numbered from 0");
        LoanLetters x = withLoans(32);
        for (int k = 0; k < 32; k++) {
            due(named("supplier", k), x.supplier(k), 2);
            dueLetter(x, k, k, 1, 2, 1, 0, 1, k + 1);
        }
        due("supplier(32)", x.supplier(32), NONE);
    }

    private static void loanTooMany() {
        sentence(3, "IllegalStateException: there are 32.");
        LoanLetters x = withLoans(31);
        due("request, the 32nd", answer(() -> x.request(5, 7, 5, 99)), 31);
        notNow("request, the 33rd", () -> x.request(1, 0, 2, 5));
        notNow("request, again", () -> x.request(5, 7, 5, 99));
        dueLetters(x, 32);
        due("supplier(32)", x.supplier(32), NONE);
    }

    private static void wrongLoanTooMany() {
        sentence(3, "IllegalArgumentException: there is no such library, title, beginning of the rota, or days.");
        LoanLetters x = withLoans(32);
        badArgument("request(6, 0, 2, 5), the 33rd", () -> x.request(6, 0, 2, 5));
        badArgument("request(1, 8, 2, 5), the 33rd", () -> x.request(1, 8, 2, 5));
        badArgument("request(1, 0, 6, 5), the 33rd", () -> x.request(1, 0, 6, 5));
        badArgument("request(1, 0, 2, 100), the 33rd", () -> x.request(1, 0, 2, 100));
    }

    // ---- promise 4 ----

    private static void stepOfNoLoan() {
        sentence(4, "IllegalArgumentException: there is no such loan or step");
        LoanLetters x = asked();
        for (int loan : outside(1)) {
            badArgument(x, 0, loan, CANCEL, 0);
            badArgument(x, 1, loan, REFUSE, 0);
        }
        dueStep(x, 1, 0, REFUSE, 0, 10);
    }

    private static void stepThatIsNone() {
        sentence(4, "IllegalArgumentException: there is no such loan or step");
        for (int k = 0; k < STAGES; k++) {
            LoanLetters x = stage(k);
            for (int step : outside(STEPS)) {
                badArgument(x, 0, 0, step, 0);
                badArgument(x, 1, 0, step, 0);
            }
        }
    }

    private static void stepOfNoLibrary() {
        sentence(4, "or the library is neither its requester (0 .. 6) nor one of its suppliers (7 .. 14)");
        LoanLetters x = asked();
        for (int step = 0; step < STEPS; step++) {
            for (int lib : outside(6)) {
                badArgument(x, lib, 0, step, 0);
            }
        }
    }

    private static void stepOfTheOtherSide() {
        sentence(4, "or the library is neither its requester (0 .. 6) nor one of its suppliers (7 .. 14)");
        for (int k = 0; k < STAGES; k++) {
            LoanLetters x = stage(k);
            for (int step = 0; step < STEPS; step++) {
                badArgument(x, step <= 6 ? 1 : 0, 0, step, 0);
            }
        }
    }

    private static void stepOfOneNotAskedYet() {
        sentence(4, "each library that was ever sent a request of it, as a SUPPLIER");
        LoanLetters x = sent();
        notNow(x, 1, 0, REFUSE, 0);
        badArgument(x, 2, 0, REFUSE, 0);
        carryLast(x);
        actAndCarry(x, 1, REFUSE, 0);
        notNow(x, 1, 0, REFUSE, 0);
        notNow(x, 2, 0, REFUSE, 0);
        badArgument(x, 3, 0, REFUSE, 0);
    }

    private static void argumentThatIsNoCopy() {
        sentence(4, "IllegalStateException: it can't be done now (so, too, for an arg that is no such copy or price).");
        LoanLetters x = asked();
        for (int copy : outside(1)) {
            notNow(x, 1, 0, PROMISE, copy);
        }
        dueStep(x, 1, 0, PROMISE, 0, 3);
    }

    private static void argumentThatIsNoPrice() {
        sentence(4, "8 condition (a price 1 .. 1000)");
        LoanLetters x = asked();
        for (int price : outside(1001)) {
            notNow(x, 1, 0, CONDITION, price);
        }
        notNow(x, 1, 0, CONDITION, 0);
        dueBook(x, 1, 0, PRICE, 0);
        dueStep(x, 1, 0, CONDITION, 1, 2);
        dueBook(x, 1, 0, PRICE, 1);
        LoanLetters y = asked();
        dueStep(y, 1, 0, CONDITION, 1000, 2);
        dueBook(y, 1, 0, PRICE, 1000);
    }

    private static void argumentThatDoesNotCount() {
        sentence(4, "(arg counts for 7, a copy, and 8, a price)");
        for (int arg : outside(1)) {
            dueStep(offered(9), 0, 0, ACCEPT, arg, 0);
            dueStep(offered(9), 0, 0, DECLINE, arg, 0);
            dueStep(asked(), 0, 0, CANCEL, arg, 10);
            dueStep(shipped(), 0, 0, RECEIVE, arg, 4);
            dueStep(here(), 0, 0, RENEW, arg, 5);
            dueStep(here(), 0, 0, GIVE_BACK, arg, 7);
            dueStep(here(), 0, 0, LOSE, arg, 12);
            dueStep(asked(), 1, 0, REFUSE, arg, 10);
            dueStep(promisedOne(), 1, 0, SHIP, arg, 4);
            dueStep(renewing(), 1, 0, GRANT, arg, 5);
            dueStep(renewing(), 1, 0, DENY, arg, 5);
            dueStep(here(), 1, 0, RECALL, arg, 7);
            dueStep(back(), 1, 0, CHECK_IN, arg, 9);
        }
    }

    // ---- promise 5 ----

    private static void daysThatPass() {
        sentence(5, "false if n isn't 1 .. 1000");
        LoanLetters x = new LoanLetters();
        for (int n : outside(1001)) {
            due(named("pass", n), x.pass(n), false);
        }
        due("pass(0)", x.pass(0), false);
        due("pass(1)", x.pass(1), true);
        due("pass(1000)", x.pass(1000), true);
    }

    private static void daysAddUp() {
        sentence(5, "The DAY becomes later by n");
        LoanLetters x = promisedOne();
        x.pass(1);
        x.pass(1000);
        x.pass(1001);
        x.pass(0);
        x.pass(-1);
        x.act(1, 0, SHIP, 0);
        dueBook(x, 1, 0, DUE, 1011);
    }

    private static void mostDays() {
        sentence(5, "The DAY becomes later by n");
        LoanLetters x = promisedOne();
        for (int k = 0; k < 490; k++) {
            x.pass(1000);
        }
        dueStep(x, 1, 0, SHIP, 0, 4);
        dueBook(x, 1, 0, DUE, 490010);
    }

    // ---- promises 6 to 10 ----

    private static void resendOfNoLibrary() {
        sentence(6, "IllegalArgumentException: it is neither.");
        LoanLetters x = asked();
        for (int lib : outside(6)) {
            badArgument(named("resend", lib, 0), () -> x.resend(lib, 0));
        }
        for (int lib = 2; lib <= 5; lib++) {
            int other = lib;
            badArgument(named("resend", lib, 0), () -> x.resend(other, 0));
        }
        dueLetters(x, 1);
    }

    private static void resendOfNoLoan() {
        sentence(6, "IllegalArgumentException: it is neither.");
        LoanLetters x = asked();
        for (int loan : outside(1)) {
            badArgument(named("resend", 0, loan), () -> x.resend(0, loan));
            badArgument(named("resend", 1, loan), () -> x.resend(1, loan));
        }
        dueLetters(x, 1);
    }

    private static void noLetterWaits() {
        sentence(7, "How many letters wait.");
        LoanLetters x = new LoanLetters();
        dueLetters(x, 0);
        x.request(0, 0, 1, 1);
        dueLetters(x, 1);
        x.drop(0);
        dueLetters(x, 0);
        x.drop(0);
        dueLetters(x, 0);
    }

    private static void carryOfNoLetter() {
        sentence(8, "NONE if there is none such.");
        LoanLetters x = withLoans(3);
        for (int i : outside(3)) {
            dueCarry(x, i, NONE);
        }
        dueCarry(x, 2, 1);
        dueCarry(new LoanLetters(), 0, NONE);
    }

    private static void dropOfNoLetter() {
        sentence(9, "false if there is none such.");
        LoanLetters x = withLoans(3);
        for (int i : outside(3)) {
            due(named("drop", i), x.drop(i), false);
        }
        dueLetters(x, 3);
        due("drop(2)", x.drop(2), true);
        due("drop(2), again", x.drop(2), false);
        due("drop(0) of a new object", new LoanLetters().drop(0), false);
    }

    private static void letterThatIsNone() {
        sentence(10, "NONE if there is none, or for another what.");
        LoanLetters x = withLoans(3);
        for (int i : outside(3)) {
            dueLetter(x, i, NONE, NONE, NONE, NONE, NONE, NONE, NONE);
        }
        dueLetter(x, 2, 2, 1, 2, 1, 0, 1, 3);
        x.drop(1);
        dueLetter(x, 2, NONE, NONE, NONE, NONE, NONE, NONE, NONE);
    }

    private static void letterAskedForAnotherWhat() {
        sentence(10, "NONE if there is none, or for another what.");
        LoanLetters x = withLoans(3);
        for (int what : outside(7)) {
            for (int i = 0; i < 3; i++) {
                due(named("letter", i, what), x.letter(i, what), NONE);
            }
        }
    }

    // ---- promise 11 ----

    private static void bookOfNoLibrary() {
        sentence(11, "NONE if there is none such, or for another what.");
        LoanLetters x = here();
        for (int what = 0; what < ENTRIES; what++) {
            for (int lib : outside(6)) {
                dueBook(x, lib, 0, what, NONE);
            }
        }
    }

    private static void bookOfNoLoan() {
        sentence(11, "NONE if there is none such, or for another what.");
        LoanLetters x = here();
        for (int what = 0; what < ENTRIES; what++) {
            for (int loan : outside(1)) {
                dueBook(x, 0, loan, what, NONE);
                dueBook(x, 1, loan, what, NONE);
            }
        }
    }

    private static void bookAskedForAnotherWhat() {
        sentence(11, "NONE if there is none such, or for another what.");
        LoanLetters x = here();
        for (int what : outside(ENTRIES)) {
            dueBook(x, 0, 0, what, NONE);
            dueBook(x, 1, 0, what, NONE);
        }
    }

    private static void bookOfOneNotAskedYet() {
        sentence(11, "Of a loan at a library (its requester, or one that was its supplier)");
        LoanLetters x = sent();
        dueWholeBook(x, 1, 0, 0, 0, 0, 0, 0, 0, 0, 0);
        for (int lib = 2; lib <= 5; lib++) {
            dueWholeBook(x, lib, 0, NONE, NONE, NONE, NONE, NONE, NONE, NONE, NONE);
        }
        carryLast(x);
        actAndCarry(x, 1, REFUSE, 0);
        dueWholeBook(x, 1, 0, 10, 0, 0, 0, 1, 1, 0, 0);
        dueWholeBook(x, 2, 0, 0, 0, 0, 0, 0, 0, 0, 0);
        dueWholeBook(x, 3, 0, NONE, NONE, NONE, NONE, NONE, NONE, NONE, NONE);
    }

    // ---- promises 12 to 17 ----

    private static void supplierOfNoLoan() {
        sentence(12, "NONE if there is no such loan.");
        LoanLetters x = withLoans(3);
        for (int loan : outside(3)) {
            due(named("supplier", loan), x.supplier(loan), NONE);
        }
        due("supplier(2)", x.supplier(2), 2);
    }

    private static void holderOfNoCopy() {
        sentence(13, "NONE if there is no such copy.");
        LoanLetters x = withCopies(3);
        for (int copy : outside(3)) {
            due(named("holder", copy), x.holder(copy), NONE);
        }
        due("holder(2)", x.holder(2), 2);
    }

    private static void promisedOfNoCopy() {
        sentence(14, "NONE if it isn't.");
        LoanLetters x = promisedOne();
        due("addCopy(1, 0)", x.addCopy(1, 0), 1);
        for (int copy : outside(2)) {
            due(named("promised", copy), x.promised(copy), NONE);
        }
        due("promised(0)", x.promised(0), 0);
        due("promised(1)", x.promised(1), NONE);
    }

    private static void balanceOfNoLibrary() {
        sentence(15, "0 if there is none such.");
        LoanLetters x = lostOne();
        for (int lib : outside(6)) {
            due(named("balance", lib), x.balance(lib), 0);
        }
        due("balance(0)", x.balance(0), -4000);
    }

    private static void queueOfNoLibrary() {
        sentence(16, "NONE if there is no such one.");
        LoanLetters x = asked();
        for (int lib : outside(6)) {
            due(named("queue", lib, 0), x.queue(lib, 0), NONE);
        }
        due("queue(5, 0)", x.queue(5, 0), 0);
    }

    private static void queueOfNoTitle() {
        sentence(16, "NONE if there is no such one.");
        LoanLetters x = asked();
        for (int title : outside(8)) {
            due(named("queue", 1, title), x.queue(1, title), NONE);
        }
        due("queue(1, 7)", x.queue(1, 7), 0);
        due("queue(1, 0)", x.queue(1, 0), 1);
    }

    private static void emptyAndFullQueue() {
        sentence(16, "How many loans of a title wait at a library, ASKED");
        LoanLetters x = new LoanLetters();
        for (int k = 0; k < 32; k++) {
            due("queue(5, 7), not taken yet", x.queue(5, 7), k);
            x.request(k % 5, 7, 5, 1);
            due("queue(5, 7), not taken yet", x.queue(5, 7), k);
            carryLast(x);
        }
        due("queue(5, 7)", x.queue(5, 7), 32);
        due("queue(5, 6)", x.queue(5, 6), 0);
        due("queue(4, 7)", x.queue(4, 7), 0);
        x.act(5, 31, REFUSE, 0);
        x.act(5, 0, CONDITION, 1);
        due("queue(5, 7)", x.queue(5, 7), 30);
    }

    private static void settledOfNoLoan() {
        sentence(17, "False if there is no such loan.");
        LoanLetters x = asked();
        x.resend(1, 0);
        x.carry(1);
        due("settled(0)", x.settled(0), true);
        for (int loan : outside(1)) {
            due(named("settled", loan), x.settled(loan), false);
        }
    }

    public static void main(String[] args) {
        runTestsOf(ArgumentEdges.class);
    }
}
