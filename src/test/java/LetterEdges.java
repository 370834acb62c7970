/** Sentences about letters: the row that is full, letters early, late, lost or doubled, and those that do nothing. */
public final class LetterEdges extends Sentences {
    private static final int MOST = 64;

    // ---- promise 7: the row that is full ----

    /** A REQUEST of each of the loans, as many days as its number and 1, and then BARE ones of library 1. */
    private static LoanLetters filled(int loans, int letters) {
        LoanLetters x = new LoanLetters();
        for (int k = 0; k < loans; k++) {
            x.request(0, 0, 1, k + 1);
        }
        for (int k = loans; k < letters; k++) {
            x.resend(1, k % loans);
        }
        dueLetters(x, Math.min(letters, MOST));
        return x;
    }

    private static void dueRequest(LoanLetters x, int i, int loan) {
        dueLetter(x, i, loan, 0, 1, 1, 0, 1, loan + 1);
    }

    private static void dueBare(LoanLetters x, int i, int loan) {
        dueLetter(x, i, loan, 1, 0, 0, 0, 0, 0);
    }

    private static void rowThatIsJustFull() {
        sentence(7, "THE ROW of letters that wait has at most 64");
        LoanLetters x = filled(32, 63);
        x.resend(1, 31);
        dueLetters(x, MOST);
        for (int k = 0; k < 32; k++) {
            dueLetter(x, k, k, 0, 1);
            dueLetter(x, 32 + k, k, 1, 0);
        }
        dueRequest(x, 0, 0);
        dueBare(x, 63, 31);
        dueLetter(x, MOST, NONE);
        dueCarry(x, 63, 0);
        dueCarry(x, MOST, NONE);
    }

    private static void oneMorePushesOutTheOldest() {
        sentence(7, "one more pushes out the oldest");
        LoanLetters x = filled(32, MOST);
        x.resend(1, 9);
        dueLetters(x, MOST);
        for (int k = 1; k < 32; k++) {
            dueLetter(x, k - 1, k, 0, 1);
        }
        for (int k = 0; k < 32; k++) {
            dueLetter(x, 31 + k, k, 1, 0);
        }
        dueRequest(x, 0, 1);
        dueBare(x, 63, 9);
        dueLetter(x, MOST, NONE);
    }

    private static void manyMorePushOutAll() {
        sentence(7, "one more pushes out the oldest");
        LoanLetters x = filled(32, MOST + 200);
        for (int k = 0; k < MOST; k++) {
            dueLetter(x, k, (200 + k) % 32, 1);
        }
    }

    private static void requestIntoAFullRow() {
        sentence(7, "one more pushes out the oldest");
        LoanLetters x = filled(31, MOST);
        due("request(0, 0, 1, 32)", x.request(0, 0, 1, 32), 31);
        dueLetters(x, MOST);
        dueRequest(x, 0, 1);
        dueRequest(x, 63, 31);
    }

    private static void twoLettersIntoAFullRow() {
        sentence(7, "one more pushes out the oldest");
        LoanLetters x = filled(32, MOST);
        due("resend(0, 5)", x.resend(0, 5), 2);
        dueLetters(x, MOST);
        dueRequest(x, 0, 2);
        dueRequest(x, 62, 5);
        dueLetter(x, 63, 5, 0, 1, 0, 0, 0, 0);
    }

    private static void twoLettersWhereOneHasRoom() {
        sentence(7, "one more pushes out the oldest");
        LoanLetters x = filled(32, 63);
        due("resend(0, 5)", x.resend(0, 5), 2);
        dueLetters(x, MOST);
        dueRequest(x, 0, 1);
        dueRequest(x, 62, 5);
        dueLetter(x, 63, 5, 0, 1, 0, 0, 0, 0);
    }

    /** Loan 0 is at CONDITION, and its letters are pushed out by BARE ones of loan 1. */
    private static LoanLetters offeredInAFullRow() {
        LoanLetters x = offered(30);
        x.request(0, 0, 1, 10);
        for (int k = 0; k < MOST; k++) {
            x.resend(1, 1);
        }
        dueBare(x, 0, 1);
        return x;
    }

    private static void declineIntoAFullRow() {
        sentence(7, "one more pushes out the oldest");
        LoanLetters x = offeredInAFullRow();
        dueStep(x, 0, 0, DECLINE, 0, 0);
        dueLetters(x, MOST);
        dueBare(x, 61, 1);
        dueLetter(x, 62, 0, 0, 1, 2, 1, 6, 0);
        dueLetter(x, 63, 0, 0, 2, 1, 0, 1, 10);
        dueCarry(x, 62, 1);
        dueCarry(x, 63, 1);
    }

    private static void answerPushesOutTheLetterThatIsCarried() {
        sentence(8, "one more pushes out the oldest");
        LoanLetters x = asked();
        x.drop(0);
        x.act(0, 0, CANCEL, 0);
        for (int k = 0; k < 63; k++) {
            x.resend(1, 0);
        }
        dueLetters(x, MOST);
        dueLetter(x, 0, 0, 0, 1, 2, 0, 15, 0);
        dueCarry(x, 0, 1);
        dueLetters(x, MOST);
        dueLetter(x, 0, 0, 1, 0, 0, 1, 0, 0);
        dueLetter(x, 63, 0, 1, 0, 1, 2, 16, 0);
        dueCarry(x, 63, 1);
        dueStates(x, 11, 11);
    }

    private static void answerMovesTheLetterThatIsCarried() {
        sentence(8, "one more pushes out the oldest");
        LoanLetters x = filled(1, 63);
        dueCarry(x, 0, 1);
        x.act(1, 0, REFUSE, 0);
        dueLetter(x, 63, 0, 1, 0, 1, 1, 4, 0);
        dueCarry(x, 63, 1);
        dueLetters(x, MOST);
        dueLetter(x, 62, 0, 1, 0, 1, 1, 4, 0);
        dueLetter(x, 63, 0, 0, 2, 1, 0, 1, 1);
        dueBook(x, 0, 0, SEEN, 0);
        dueBook(x, 1, 0, ACKED, 0);
    }

    private static void pushedOutLetterIsKept() {
        sentence(6, "the letters that it sends are numbered 1, 2, .. (between these two alone), and kept");
        LoanLetters x = filled(32, MOST + 1);
        dueRequest(x, 0, 1);
        dueBook(x, 0, 0, SENT, 1);
        due("resend(0, 0)", x.resend(0, 0), 2);
        dueRequest(x, 62, 0);
        dueCarry(x, 62, 1);
        dueBook(x, 1, 0, STATE, 1);
    }

    private static void droppedLetterIsKept() {
        sentence(6, "the letters that it sends are numbered 1, 2, .. (between these two alone), and kept");
        LoanLetters x = sent();
        x.drop(0);
        dueLetters(x, 0);
        dueBook(x, 0, 0, SENT, 1);
        due("resend(0, 0)", x.resend(0, 0), 2);
        dueLetter(x, 0, 0, 0, 1, 1, 0, 1, 10);
        dueCarry(x, 0, 1);
    }

    private static void dropMakesRoom() {
        sentence(9, "A letter is lost");
        for (int i : new int[] {0, 10, 63}) {
            LoanLetters x = filled(32, MOST);
            due(named("drop", i), x.drop(i), true);
            dueLetters(x, 63);
            for (int k = 0; k < 63; k++) {
                int old = k < i ? k : k + 1;
                dueLetter(x, k, old % 32, old < 32 ? 0 : 1);
            }
            dueLetter(x, 63, NONE);
            x.resend(1, 7);
            dueLetters(x, MOST);
            dueLetter(x, 0, i == 0 ? 1 : 0);
            dueBare(x, 63, 7);
        }
    }

    private static void dropOfTheOnlyLetter() {
        sentence(9, "A letter is lost");
        LoanLetters x = sent();
        due("drop(0)", x.drop(0), true);
        dueLetters(x, 0);
        dueCarry(x, 0, NONE);
        dueLetter(x, 0, NONE);
        dueBook(x, 1, 0, STATE, 0);
    }

    // ---- promise 8: letters that are carried ----

    private static void carriedLetterStays() {
        sentence(8, "A letter that is CARRIED stays in the row.");
        LoanLetters x = sent();
        dueCarry(x, 0, 1);
        dueLetters(x, 1);
        dueLetter(x, 0, 0, 0, 1, 1, 0, 1, 10);
    }

    private static void doubledLetterIsTakenOnce() {
        sentence(8, "If its number is above SEEN it is HELD");
        LoanLetters x = sent();
        due("resend(0, 0)", x.resend(0, 0), 2);
        dueCarry(x, 1, 1);
        dueCarry(x, 0, 0);
        dueCarry(x, 1, 0);
        dueBook(x, 1, 0, SEEN, 1);
        dueBook(x, 1, 0, STATE, 1);
        x.act(1, 0, REFUSE, 0);
        dueCarry(x, 0, 0);
        dueBook(x, 1, 0, STATE, 10);
    }

    private static void lateLetterOfAStepThatCanComeAgain() {
        sentence(8, "If its number is above SEEN it is HELD");
        LoanLetters x = renewing();
        actAndCarry(x, 1, DENY, 0);
        dueStates(x, 4, 5);
        dueCarry(x, 4, 0);
        dueStates(x, 4, 5);
        actAndCarry(x, 0, RENEW, 0);
        dueCarry(x, 5, 0);
        dueStates(x, 5, 6);
    }

    private static void everyLetterOfALoanIsDoubled() {
        sentence(8, "If its number is above SEEN it is HELD");
        LoanLetters x = asked();
        int[] libs = {1, 0, 1, 1, 0, 0, 1, 0, 1, 1, 0, 1};
        int[] steps = {CONDITION, ACCEPT, PROMISE, SHIP, RECEIVE, RENEW, GRANT, RENEW, DENY, RECALL, GIVE_BACK,
            CHECK_IN};
        for (int k = 0; k < steps.length; k++) {
            actAndCarry(x, libs[k], steps[k], steps[k] == CONDITION ? 50 : 0);
            int[] before = shown(x);
            for (int i = 0; i <= k + 1; i++) {
                dueCarry(x, i, 0);
            }
            dueAsBefore(x, before);
        }
        dueStates(x, 8, 9);
    }

    private static void oldestLetterIsTheFirst() {
        sentence(8, "Letter i (the oldest first) is CARRIED");
        LoanLetters x = filled(3, 3);
        due("drop(0)", x.drop(0), true);
        dueCarry(x, 1, 1);
        dueBook(x, 1, 2, STATE, 1);
        dueCarry(x, 0, 1);
        dueBook(x, 1, 1, STATE, 1);
        dueBook(x, 1, 0, STATE, 0);
    }

    private static void lettersThatTellNoNumber() {
        sentence(10, "those not told have the number 0");
        int[] stages = {1, 1, 1, 2, 2, 4, 5, 5, 5};
        int[] libs = {0, 1, 1, 0, 0, 0, 0, 0, 0};
        int[] steps = {CANCEL, PROMISE, REFUSE, ACCEPT, DECLINE, RECEIVE, RENEW, GIVE_BACK, LOSE};
        int[] kinds = {15, 2, 4, 5, 6, 8, 9, 12, 14};
        for (int k = 0; k < steps.length; k++) {
            LoanLetters x = stage(stages[k]);
            x.pass(100);
            int next = x.letters();
            x.act(libs[k], 0, steps[k], 0);
            due("KIND of step " + steps[k], x.letter(next, 5), kinds[k]);
            due("the number of step " + steps[k], x.letter(next, 6), 0);
        }
        LoanLetters x = cancelling();
        carryLast(x);
        due("KIND of the answer", x.letter(3, 5), 16);
        due("the number of the answer", x.letter(3, 6), 0);
        x.resend(0, 0);
        due("KIND of the last one sent again", x.letter(x.letters() - 1, 5), 0);
        due("the number of the last one sent again", x.letter(x.letters() - 1, 6), 0);
    }

    private static void bareLetterIsNotTaken() {
        sentence(8, "its number (0 of a BARE one)");
        LoanLetters x = sent();
        due("resend(1, 0)", x.resend(1, 0), 1);
        dueLetter(x, 1, 0, 1, 0, 0, 0, 0, 0);
        dueCarry(x, 1, 0);
        dueBook(x, 0, 0, SEEN, 0);
        dueBook(x, 1, 0, SENT, 0);
    }

    private static void earlyLetterIsHeld() {
        sentence(8, "as long as the letter with the number SEEN and 1 is held, it is TAKEN, SEEN being one more");
        LoanLetters x = sent();
        x.act(0, 0, CANCEL, 0);
        dueCarry(x, 1, 0);
        dueBook(x, 1, 0, SEEN, 0);
        dueBook(x, 1, 0, STATE, 0);
        dueCarry(x, 0, 2);
        dueBook(x, 1, 0, SEEN, 2);
        dueBook(x, 1, 0, STATE, 11);
    }

    private static void heldLetterMayBeDropped() {
        sentence(8, "as long as the letter with the number SEEN and 1 is held, it is TAKEN, SEEN being one more");
        LoanLetters x = sent();
        x.act(0, 0, CANCEL, 0);
        dueCarry(x, 1, 0);
        due("drop(1)", x.drop(1), true);
        dueCarry(x, 0, 2);
        dueBook(x, 1, 0, STATE, 11);
    }

    private static void letterHeldTwiceIsTakenOnce() {
        sentence(8, "as long as the letter with the number SEEN and 1 is held, it is TAKEN, SEEN being one more");
        LoanLetters x = sent();
        x.act(0, 0, CANCEL, 0);
        dueCarry(x, 1, 0);
        dueCarry(x, 1, 0);
        due("resend(0, 0)", x.resend(0, 0), 3);
        dueCarry(x, 3, 0);
        dueCarry(x, 2, 2);
        dueCarry(x, 1, 0);
        dueBook(x, 1, 0, SEEN, 2);
        dueBook(x, 1, 0, SENT, 1);
    }

    /** RECEIVED, RENEW and RETURNED wait as letters 3, 4 and 5. */
    private static LoanLetters threeOnTheWay() {
        LoanLetters x = shipped();
        x.act(0, 0, RECEIVE, 0);
        x.act(0, 0, RENEW, 0);
        x.act(0, 0, GIVE_BACK, 0);
        dueLetters(x, 6);
        return x;
    }

    private static void threeLettersInAnyOrder() {
        sentence(8, "as long as the letter with the number SEEN and 1 is held, it is TAKEN, SEEN being one more");
        int[][] orders = {{3, 4, 5}, {3, 5, 4}, {4, 3, 5}, {4, 5, 3}, {5, 3, 4}, {5, 4, 3}};
        int[][] taken = {{1, 1, 1}, {1, 0, 2}, {0, 2, 1}, {0, 0, 3}, {0, 1, 2}, {0, 0, 3}};
        for (int k = 0; k < orders.length; k++) {
            LoanLetters x = threeOnTheWay();
            for (int n = 0; n < 3; n++) {
                dueCarry(x, orders[k][n], taken[k][n]);
            }
            dueBook(x, 1, 0, SEEN, 4);
            dueBook(x, 1, 0, STATE, 8);
        }
    }

    private static void gapKeepsLettersHeld() {
        sentence(8, "as long as the letter with the number SEEN and 1 is held, it is TAKEN, SEEN being one more");
        LoanLetters x = threeOnTheWay();
        dueCarry(x, 5, 0);
        dueCarry(x, 3, 1);
        dueBook(x, 1, 0, SEEN, 2);
        dueBook(x, 1, 0, STATE, 5);
        dueStep(x, 1, 0, RECALL, 0, 7);
        dueCarry(x, 4, 2);
        dueBook(x, 1, 0, STATE, 8);
    }

    private static void numbersBeginAnewWithTheNextSupplier() {
        sentence(10, "numbered 1, 2, .. (between these two alone)");
        LoanLetters x = accepted(30);
        actAndCarry(x, 1, REFUSE, 0);
        dueLetter(x, 4, 0, 0, 2, 1, 0, 1, 10);
        carryLast(x);
        x.act(2, 0, REFUSE, 0);
        dueLetter(x, 5, 0, 2, 0, 1, 1, 4, 0);
    }

    private static void numbersBeginAnewWithAnotherLoan() {
        sentence(10, "numbered 1, 2, .. (between these two alone)");
        LoanLetters x = accepted(30);
        x.request(0, 0, 1, 9);
        dueLetter(x, 3, 1, 0, 1, 1, 0, 1, 9);
        dueCarry(x, 3, 1);
        x.act(1, 1, REFUSE, 0);
        dueLetter(x, 4, 1, 1, 0, 1, 1, 4, 0);
        dueBook(x, 0, 0, SEEN, 1);
        dueCarry(x, 4, 1);
        dueBook(x, 0, 0, SEEN, 1);
        dueBook(x, 0, 0, STATE, 0);
    }

    private static void seenIsToldAsItWasThen() {
        sentence(10, "SEEN of who sends it (as it is then)");
        LoanLetters x = asked();
        x.act(0, 0, CANCEL, 0);
        x.act(1, 0, PROMISE, 0);
        dueCarry(x, 2, 1);
        dueBook(x, 0, 0, SEEN, 1);
        dueLetter(x, 1, 0, 0, 1, 2, 0, 15, 0);
        dueCarry(x, 1, 1);
        dueBook(x, 1, 0, ACKED, 0);
    }

    private static void seenOfAnAnswerCountsTheLetter() {
        sentence(8, "it is TAKEN, SEEN being one more");
        LoanLetters x = asked();
        x.act(0, 0, CANCEL, 0);
        dueCarry(x, 1, 1);
        dueLetter(x, 2, 0, 1, 0, 1, 2, 16, 0);
        dueCarry(x, 2, 1);
        dueBook(x, 0, 0, ACKED, 2);
    }

    // ---- promise 8: ACKED ----

    private static void ackedGrows() {
        sentence(8, "ACKED becomes the SEEN that it tells, if that is greater.");
        LoanLetters x = asked();
        dueBook(x, 0, 0, ACKED, 0);
        actAndCarry(x, 1, PROMISE, 0);
        dueBook(x, 0, 0, ACKED, 1);
        dueBook(x, 1, 0, ACKED, 0);
        actAndCarry(x, 0, CANCEL, 0);
        dueBook(x, 1, 0, ACKED, 1);
    }

    private static void ackedNeverShrinks() {
        sentence(8, "ACKED becomes the SEEN that it tells, if that is greater.");
        LoanLetters x = sent();
        x.resend(1, 0);
        dueCarry(x, 0, 1);
        x.resend(1, 0);
        dueCarry(x, 2, 0);
        dueBook(x, 0, 0, ACKED, 1);
        dueCarry(x, 1, 0);
        dueBook(x, 0, 0, ACKED, 1);
        dueCarry(x, 2, 0);
        dueBook(x, 0, 0, ACKED, 1);
    }

    private static void ackedByALetterThatIsOnlyHeld() {
        sentence(8, "ACKED becomes the SEEN that it tells, if that is greater.");
        LoanLetters x = asked();
        x.act(1, 0, PROMISE, 0);
        x.act(1, 0, SHIP, 0);
        dueCarry(x, 2, 0);
        dueBook(x, 0, 0, SEEN, 0);
        dueBook(x, 0, 0, ACKED, 1);
    }

    private static void ackedByALetterThatIsDoubled() {
        sentence(8, "ACKED becomes the SEEN that it tells, if that is greater.");
        LoanLetters x = promisedOne();
        x.act(0, 0, CANCEL, 0);
        x.act(1, 0, SHIP, 0);
        dueCarry(x, 3, 1);
        dueCarry(x, 2, 1);
        dueBook(x, 1, 0, ACKED, 1);
        due("resend(0, 0)", x.resend(0, 0), 2);
        dueLetter(x, 4, 0, 0, 1, 2, 2, 15, 0);
        dueCarry(x, 4, 0);
        dueBook(x, 1, 0, ACKED, 2);
    }

    // ---- promise 8: suppliers that aren't the present one ----

    private static void formerSupplierRefusesAgain() {
        sentence(8, "(A requester takes letters of suppliers that aren't its present one, too: they do nothing but "
            + "that.)");
        LoanLetters x = asked();
        actAndCarry(x, 1, REFUSE, 0);
        due("resend(1, 0)", x.resend(1, 0), 2);
        dueLetter(x, 3, 0, 1, 0, 1, 1, 4, 0);
        dueCarry(x, 3, 0);
        dueCarry(x, 1, 0);
        due("supplier(0)", x.supplier(0), 2);
        dueLetters(x, 5);
        dueWholeBook(x, 0, 0, 0, 0, 0, 0, 1, 0, 0, 0);
    }

    private static void formerSupplierTellsItsSeen() {
        sentence(8, "(A requester takes letters of suppliers that aren't its present one, too: they do nothing but "
            + "that.)");
        LoanLetters x = accepted(30);
        actAndCarry(x, 1, REFUSE, 0);
        x.resend(1, 0);
        dueLetter(x, 6, 0, 1, 0, 0, 2, 0, 0);
        dueCarry(x, 6, 0);
        dueWholeBook(x, 0, 0, 0, 0, 0, 0, 1, 0, 0, 0);
        due("settled(0)", x.settled(0), false);
    }

    private static void formerSupplierTakesALateDecline() {
        sentence(8, "DECLINE: OFFERED: REFUSED.");
        LoanLetters x = offered(30);
        x.act(0, 0, DECLINE, 0);
        dueCarry(x, 3, 1);
        actAndCarry(x, 2, REFUSE, 0);
        due("supplier(0)", x.supplier(0), 3);
        dueBook(x, 1, 0, STATE, 2);
        dueCarry(x, 2, 1);
        dueBook(x, 1, 0, STATE, 10);
        dueBook(x, 0, 0, STATE, 0);
        due("supplier(0)", x.supplier(0), 3);
    }

    // ---- promise 8: letters that do nothing ----

    /** The letter is taken, and neither state changes, nor DUE, PRICE, charge, balances, the copy or the row. */
    private static void dueNothing(LoanLetters x, int i, int goal) {
        int[] before = shown(x);
        int seen = x.book(goal, 0, SEEN);
        dueCarry(x, i, 1);
        dueBook(x, goal, 0, SEEN, seen + 1);
        dueAsBefore(x, before);
    }

    private static void dueAsBefore(LoanLetters x, int[] before) {
        int[] after = shown(x);
        for (int k = 0; k < before.length; k++) {
            due("what is shown, " + k, after[k], before[k]);
        }
    }

    private static int[] shown(LoanLetters x) {
        return new int[] {x.book(0, 0, STATE), x.book(1, 0, STATE), x.book(0, 0, DUE), x.book(1, 0, DUE),
            x.book(0, 0, PRICE), x.book(1, 0, PRICE), x.book(0, 0, CHARGE), x.book(1, 0, CHARGE), x.balance(0),
            x.balance(1), x.holder(0), x.promised(0), x.letters(), x.supplier(0)};
    }

    private static void cancelOfARefusedLoan() {
        sentence(8, "In all other states a letter does nothing.");
        LoanLetters x = asked();
        x.act(1, 0, REFUSE, 0);
        x.act(0, 0, CANCEL, 0);
        dueNothing(x, 2, 1);
        dueStates(x, 10, 10);
        dueCarry(x, 1, 1);
        dueStates(x, 11, 10);
    }

    private static void cancelOfAShippedLoan() {
        sentence(8, "In all other states a letter does nothing.");
        LoanLetters x = promisedOne();
        x.act(1, 0, SHIP, 0);
        x.act(0, 0, CANCEL, 0);
        dueNothing(x, 3, 1);
        dueStates(x, 10, 4);
        dueCarry(x, 2, 1);
        dueStates(x, 3, 4);
    }

    private static void renewOfAWantedLoan() {
        sentence(8, "In all other states a letter does nothing.");
        LoanLetters x = here();
        x.act(1, 0, RECALL, 0);
        x.act(0, 0, RENEW, 0);
        dueNothing(x, 5, 1);
        dueStates(x, 5, 7);
        dueCarry(x, 4, 1);
        dueStates(x, 6, 7);
    }

    private static void promiseForOneThatCancels() {
        sentence(8, "In all other states a letter does nothing.");
        LoanLetters x = asked();
        x.act(0, 0, CANCEL, 0);
        x.act(1, 0, PROMISE, 0);
        dueNothing(x, 2, 0);
        dueStates(x, 10, 3);
    }

    private static void conditionForOneThatCancels() {
        sentence(8, "In all other states a letter does nothing.");
        LoanLetters x = asked();
        x.act(0, 0, CANCEL, 0);
        x.act(1, 0, CONDITION, 500);
        dueNothing(x, 2, 0);
        dueStates(x, 10, 2);
        dueBook(x, 0, 0, PRICE, 0);
    }

    private static void recallOfACopyOnItsWayBack() {
        sentence(8, "In all other states a letter does nothing.");
        LoanLetters x = here();
        x.act(0, 0, GIVE_BACK, 0);
        x.act(1, 0, RECALL, 0);
        dueNothing(x, 5, 0);
        dueStates(x, 7, 7);
        dueBook(x, 0, 0, DUE, 10);
    }

    private static void recallOfALostCopy() {
        sentence(8, "In all other states a letter does nothing.");
        LoanLetters x = here();
        x.act(0, 0, LOSE, 0);
        x.act(1, 0, RECALL, 0);
        dueNothing(x, 5, 0);
        dueStates(x, 12, 7);
        dueBook(x, 0, 0, DUE, 10);
    }

    private static void renewalOfACopyOnItsWayBack() {
        sentence(8, "In all other states a letter does nothing.");
        for (int answer : new int[] {GRANT, DENY}) {
            LoanLetters x = renewing();
            x.act(0, 0, GIVE_BACK, 0);
            x.act(1, 0, answer, 0);
            dueNothing(x, 6, 0);
            dueStates(x, 7, 5);
            dueBook(x, 0, 0, DUE, 10);
        }
    }

    private static void renewalOfALostCopy() {
        sentence(8, "In all other states a letter does nothing.");
        for (int answer : new int[] {GRANT, DENY}) {
            LoanLetters x = renewing();
            x.act(0, 0, LOSE, 0);
            x.act(1, 0, answer, 0);
            dueNothing(x, 6, 0);
            dueStates(x, 12, 5);
            dueBook(x, 0, 0, DUE, 10);
        }
    }

    // ---- promise 8: letters that cross ----

    private static void refuseOfACancelledRequest() {
        sentence(8, "REFUSE: ASKING: the NEXT one; CANCELLING: CANCELLED.");
        LoanLetters x = asked();
        x.act(0, 0, CANCEL, 0);
        x.act(1, 0, REFUSE, 0);
        dueCarry(x, 2, 1);
        dueStates(x, 11, 10);
        dueLetters(x, 3);
        due("supplier(0)", x.supplier(0), 1);
    }

    private static void shippedToOneThatCancels() {
        sentence(8, "SHIPPED: PROMISED, CANCELLING: COMING, due that day.");
        LoanLetters x = cancelling();
        x.act(1, 0, SHIP, 0);
        dueCarry(x, 3, 1);
        dueStates(x, 3, 4);
        dueBook(x, 0, 0, DUE, 10);
        dueStep(x, 0, 0, RECEIVE, 0, 4);
    }

    private static void cancelInEachStateThatYields() {
        sentence(8, "CANCEL: ASKED, OFFERED, PROMISED: CANCELLED, and CANCELLED is sent.");
        for (int k = 1; k <= 3; k++) {
            LoanLetters x = stage(k);
            actAndCarry(x, 0, CANCEL, 0);
            dueStates(x, 10, 11);
            carryLast(x);
            dueStates(x, 11, 11);
            due("promised(0)", x.promised(0), NONE);
            dueBook(x, 0, 0, PRICE, k == 2 ? 30 : 0);
        }
    }

    private static void returnedInEachStateOut() {
        sentence(8, "RETURNED: OUT, RENEWAL, WANTED: RETURNING.");
        for (int k = 5; k <= 7; k++) {
            LoanLetters x = stage(k);
            actAndCarry(x, 0, GIVE_BACK, 0);
            dueStates(x, 7, 8);
        }
    }

    private static void lostInEachStateOut() {
        sentence(8, "LOST: OUT, RENEWAL, WANTED: LOST, the balance 4000 more.");
        for (int k = 5; k <= 7; k++) {
            LoanLetters x = stage(k);
            actAndCarry(x, 0, LOSE, 0);
            dueStates(x, 12, 12);
            due("balance(1)", x.balance(1), 4000);
        }
    }

    private static void recallInEachStateHere() {
        sentence(8, "RECALL: HERE, RENEWING: RECALLED, due that day.");
        for (int k = 5; k <= 6; k++) {
            LoanLetters x = stage(k);
            actAndCarry(x, 1, RECALL, 0);
            dueStates(x, 6, 7);
            dueBook(x, 0, 0, DUE, 7);
        }
    }

    private static void renewalThatIsDenied() {
        sentence(8, "RENEWED: RENEWING: HERE, due that day, if it isn't 0.");
        LoanLetters x = renewing();
        actAndCarry(x, 1, DENY, 0);
        dueStates(x, 4, 5);
        dueBook(x, 0, 0, DUE, 10);
    }

    private static void renewalThatIsGranted() {
        sentence(8, "RENEWED: RENEWING: HERE, due that day, if it isn't 0.");
        LoanLetters x = renewing();
        actAndCarry(x, 1, GRANT, 0);
        dueStates(x, 4, 5);
        dueBook(x, 0, 0, DUE, 20);
    }

    // ---- promise 6 ----

    private static void resendOfNothingUnknown() {
        sentence(6, "and then a BARE one");
        LoanLetters x = promisedOne();
        dueBook(x, 0, 0, ACKED, 1);
        due("resend(0, 0)", x.resend(0, 0), 1);
        dueLetters(x, 3);
        dueLetter(x, 2, 0, 0, 1, 0, 1, 0, 0);
    }

    private static void resendOfOneThatSentNothing() {
        sentence(6, "and then a BARE one");
        LoanLetters x = sent();
        due("resend(1, 0)", x.resend(1, 0), 1);
        dueLetter(x, 1, 0, 1, 0, 0, 0, 0, 0);
    }

    private static void resendOfThoseUnknownAlone() {
        sentence(6, "A library sends all letters of a loan again that it doesn't know to be taken, in order (as they "
            + "were, with SEEN as it is now)");
        LoanLetters x = shipped();
        x.act(0, 0, RECEIVE, 0);
        x.act(0, 0, RENEW, 0);
        dueLetter(x, 3, 0, 0, 1, 2, 2, 8, 0);
        dueCarry(x, 3, 1);
        x.act(1, 0, RECALL, 0);
        dueCarry(x, 5, 1);
        dueBook(x, 0, 0, ACKED, 2);
        due("resend(0, 0)", x.resend(0, 0), 2);
        dueLetter(x, 6, 0, 0, 1, 3, 3, 9, 0);
        dueLetter(x, 7, 0, 0, 1, 0, 3, 0, 0);
        dueLetters(x, 8);
        due("resend(1, 0)", x.resend(1, 0), 2);
        dueLetter(x, 8, 0, 1, 0, 3, 2, 11, 7);
        dueLetter(x, 9, 0, 1, 0, 0, 2, 0, 0);
    }

    private static void resendOfAllThatAreUnknown() {
        sentence(6, "A library sends all letters of a loan again that it doesn't know to be taken, in order (as they "
            + "were, with SEEN as it is now)");
        LoanLetters x = asked();
        x.act(1, 0, PROMISE, 0);
        x.pass(5);
        x.act(1, 0, SHIP, 0);
        x.pass(5);
        due("resend(1, 0)", x.resend(1, 0), 3);
        dueLetter(x, 3, 0, 1, 0, 1, 1, 2, 0);
        dueLetter(x, 4, 0, 1, 0, 2, 1, 7, 15);
        dueLetter(x, 5, 0, 1, 0, 0, 1, 0, 0);
        dueBook(x, 1, 0, SENT, 2);
        due("resend(1, 0), again", x.resend(1, 0), 3);
        dueLetters(x, 9);
    }

    private static void resendGoesToThePresentSupplier() {
        sentence(6, "to its supplier, present for the requester, or to the requester: how many");
        LoanLetters x = offered(30);
        x.act(0, 0, DECLINE, 0);
        due("resend(0, 0)", x.resend(0, 0), 2);
        dueLetter(x, 4, 0, 0, 2, 1, 0, 1, 10);
        dueLetter(x, 5, 0, 0, 2, 0, 0, 0, 0);
        dueLetters(x, 6);
    }

    private static void resendOfAFormerSupplier() {
        sentence(6, "to its supplier, present for the requester, or to the requester: how many");
        LoanLetters x = asked();
        actAndCarry(x, 1, REFUSE, 0);
        due("resend(1, 0)", x.resend(1, 0), 2);
        dueLetter(x, 3, 0, 1, 0, 1, 1, 4, 0);
        dueLetter(x, 4, 0, 1, 0, 0, 1, 0, 0);
        due("resend(2, 0)", x.resend(2, 0), 1);
        dueLetter(x, 5, 0, 2, 0, 0, 0, 0, 0);
    }

    // ---- promise 17 ----

    private static void takenButNotKnown() {
        sentence(17, "and know it");
        LoanLetters x = asked();
        due("settled(0), the requester doesn't know", x.settled(0), false);
        x.resend(1, 0);
        due("settled(0), the BARE one on the way", x.settled(0), false);
        carryBare(x);
        due("settled(0)", x.settled(0), true);
    }

    private static void knownByOneAlone() {
        sentence(17, "and know it");
        LoanLetters x = promisedOne();
        dueBook(x, 0, 0, ACKED, 1);
        due("settled(0), the supplier doesn't know", x.settled(0), false);
        x.resend(0, 0);
        carryBare(x);
        due("settled(0)", x.settled(0), true);
    }

    private static void carryBare(LoanLetters x) {
        dueCarry(x, x.letters() - 1, 0);
    }

    private static void notTakenYet() {
        sentence(17, "Whether the requester and the present supplier have taken all letters of one another");
        due("settled(0), nothing taken", sent().settled(0), false);
        LoanLetters x = promisedOne();
        x.resend(0, 0);
        carryBare(x);
        due("settled(0)", x.settled(0), true);
        x.act(1, 0, SHIP, 0);
        due("settled(0), SHIPPED on the way", x.settled(0), false);
        carryLast(x);
        x.resend(0, 0);
        carryBare(x);
        due("settled(0)", x.settled(0), true);
        x.act(0, 0, RECEIVE, 0);
        due("settled(0), RECEIVED on the way", x.settled(0), false);
    }

    private static void lostLetterIsNotTaken() {
        sentence(17, "Whether the requester and the present supplier have taken all letters of one another");
        LoanLetters x = promisedOne();
        x.act(1, 0, SHIP, 0);
        x.drop(2);
        x.resend(0, 0);
        carryBare(x);
        due("settled(0)", x.settled(0), false);
    }

    private static void onlyThePresentSupplierCounts() {
        sentence(17, "Whether the requester and the present supplier have taken all letters of one another");
        LoanLetters x = offered(30);
        x.act(0, 0, DECLINE, 0);
        x.drop(2);
        due("settled(0)", x.settled(0), false);
        carryLast(x);
        x.resend(2, 0);
        carryBare(x);
        dueBook(x, 1, 0, STATE, 2);
        due("settled(0), though the DECLINE is lost", x.settled(0), true);
    }

    private static void unfilledLoanMayBeSettled() {
        sentence(17, "Whether the requester and the present supplier have taken all letters of one another");
        LoanLetters x = unfilled();
        due("settled(0)", x.settled(0), false);
        x.resend(0, 0);
        carryBare(x);
        due("settled(0)", x.settled(0), true);
    }

    // ---- promise 11 ----

    private static void manyLettersOfOneSide() {
        sentence(11, "4 how many letters it sent, 5 SEEN, 6 ACKED");
        LoanLetters x = here();
        for (int k = 0; k < 70; k++) {
            actAndCarry(x, 0, RENEW, 0);
            actAndCarry(x, 1, DENY, 0);
        }
        dueWholeBook(x, 0, 0, 4, 10, 0, 0, 72, 72, 72, 1);
        dueWholeBook(x, 1, 0, 5, 10, 0, 0, 72, 72, 71, 0);
        dueLetters(x, MOST);
        dueLetter(x, 63, 0, 1, 0, 72, 72, 10, 0);
        due("resend(1, 0)", x.resend(1, 0), 2);
        due("resend(0, 0)", x.resend(0, 0), 1);
    }

    private static void bookWithThePresentSupplier() {
        sentence(11, "(of the requester: with its present supplier)");
        LoanLetters x = accepted(30);
        dueWholeBook(x, 0, 0, 0, 0, 30, 0, 2, 1, 1, 0);
        actAndCarry(x, 1, REFUSE, 0);
        dueWholeBook(x, 0, 0, 0, 0, 0, 0, 1, 0, 0, 0);
        dueWholeBook(x, 1, 0, 10, 0, 30, 0, 2, 2, 1, 0);
        dueWholeBook(unfilled(), 0, 0, 9, 0, 0, 0, 1, 1, 1, 0);
    }

    public static void main(String[] args) {
        runTestsOf(LetterEdges.class);
    }
}
