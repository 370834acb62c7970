import java.util.ArrayList;
import java.util.List;

/** A call that is refused leaves all as it was: of two objects alike, one is asked in vain, and both go on alike. */
public final class RefusedCalls extends Sentences {
    private static final int MORE_STAGES = STAGES + 6;

    private interface CallOn {
        int run(LoanLetters x);
    }

    // ---- objects in which something is hidden that no answer shows at once ----

    private static LoanLetters anyStage(int k) {
        switch (k - STAGES) {
            case 0: return letterHeld();
            case 1: return daysPassed();
            case 2: return granted(2);
            case 3: return granted(3);
            case 4: return accepted(30);
            case 5: return allFull();
            default: return stage(k);
        }
    }

    private static LoanLetters letterHeld() {
        LoanLetters x = shipped();
        x.act(0, 0, RECEIVE, 0);
        x.act(0, 0, RENEW, 0);
        dueCarry(x, 4, 0);
        return x;
    }

    private static LoanLetters daysPassed() {
        LoanLetters x = promisedOne();
        x.pass(5);
        return x;
    }

    private static LoanLetters granted(int renewals) {
        LoanLetters x = renewing();
        for (int k = 0; k < renewals; k++) {
            actAndCarry(x, 1, GRANT, 0);
            actAndCarry(x, 0, RENEW, 0);
        }
        return x;
    }

    /** 32 copies, 32 loans and 64 letters, the oldest of which is the REQUEST of loan 0. */
    private static LoanLetters allFull() {
        LoanLetters x = new LoanLetters();
        for (int k = 0; k < 32; k++) {
            x.addCopy(1, 0);
            x.request(0, 0, 1, 10);
        }
        for (int k = 0; k < 32; k++) {
            x.resend(1, 31);
        }
        dueLetters(x, 64);
        return x;
    }

    // ---- what an object answers, now and later ----

    private static List<Integer> present(LoanLetters x) {
        List<Integer> log = new ArrayList<>();
        log.add(x.letters());
        for (int i = 0; i < Math.min(16, x.letters()); i++) {
            for (int what = 0; what < 7; what++) {
                log.add(x.letter(i, what));
            }
        }
        for (int loan = 0; loan < 2; loan++) {
            log.add(x.supplier(loan));
            log.add(x.settled(loan) ? 1 : 0);
            for (int lib = 0; lib < 3; lib++) {
                for (int what = 0; what < ENTRIES; what++) {
                    log.add(x.book(lib, loan, what));
                }
            }
        }
        for (int k = 0; k < 2; k++) {
            log.add(x.holder(k));
            log.add(x.promised(k));
            log.add(x.balance(k));
            log.add(x.queue(1, k));
        }
        return log;
    }

    /** Brings out the numbers of the next copy and loan, the DAY, the letters held and the renewals granted. */
    private static List<Integer> future(LoanLetters x) {
        List<Integer> log = new ArrayList<>();
        int copy = answer(() -> x.addCopy(3, 7));
        int loan = answer(() -> x.request(2, 7, 3, 1));
        log.add(copy);
        log.add(loan);
        log.add(x.carry(x.letters() - 1));
        step(log, x, 3, loan, PROMISE, copy);
        step(log, x, 3, loan, SHIP, 0);
        for (int i = 0; i < Math.min(16, x.letters()); i++) {
            log.add(x.carry(i));
        }
        step(log, x, 1, 0, PROMISE, 0);
        for (int k = 0; k < 3; k++) {
            step(log, x, 1, 0, SHIP, 0);
            step(log, x, 0, 0, RECEIVE, 0);
            step(log, x, 0, 0, RENEW, 0);
            step(log, x, 1, 0, GRANT, 0);
        }
        step(log, x, 0, 0, GIVE_BACK, 0);
        log.add(x.pass(1000) ? 1 : 0);
        step(log, x, 1, 0, CHECK_IN, 0);
        log.add(answer(() -> x.resend(0, 0)));
        log.add(answer(() -> x.resend(1, 0)));
        return log;
    }

    private static void step(List<Integer> log, LoanLetters x, int lib, int loan, int step, int arg) {
        log.add(answer(() -> x.act(lib, loan, step, arg)));
        log.add(x.letter(x.letters() - 1, 6));
        log.add(x.carry(x.letters() - 1));
        log.add(x.balance(lib));
    }

    /** At every stage where the call answers that it is refused, if it is so anywhere. */
    private static void leavesAll(String name, int refused, CallOn call) {
        int times = 0;
        for (int k = 0; k < MORE_STAGES; k++) {
            LoanLetters x = anyStage(k);
            LoanLetters twin = anyStage(k);
            if (answer(() -> call.run(x)) == refused) {
                times++;
                due(name + " leaves what is at stage " + k, present(x).equals(present(twin)), true);
                due(name + " leaves what comes at stage " + k, future(x).equals(future(twin)), true);
            }
        }
        due(name + " is refused somewhere", times > 0, true);
    }

    // ---- the calls ----

    private static void wrongCopies() {
        sentence(2, "IllegalArgumentException: there is no such library or title.");
        leavesAll("addCopy(6, 0)", BAD_ARGUMENT, x -> x.addCopy(6, 0));
        leavesAll("addCopy(-1, 0)", BAD_ARGUMENT, x -> x.addCopy(-1, 0));
        leavesAll("addCopy(0, 8)", BAD_ARGUMENT, x -> x.addCopy(0, 8));
        leavesAll("addCopy(0, -1)", BAD_ARGUMENT, x -> x.addCopy(0, -1));
    }

    private static void oneCopyTooMany() {
        sentence(2, "IllegalStateException: there are 32.");
        leavesAll("addCopy(1, 0)", NOT_NOW, x -> x.addCopy(1, 0));
    }

    private static void wrongRequests() {
        sentence(3, "IllegalArgumentException: there is no such library, title, beginning of the rota, or days.");
        leavesAll("request(6, 0, 1, 1)", BAD_ARGUMENT, x -> x.request(6, 0, 1, 1));
        leavesAll("request(0, 8, 1, 1)", BAD_ARGUMENT, x -> x.request(0, 8, 1, 1));
        leavesAll("request(0, 0, 6, 1)", BAD_ARGUMENT, x -> x.request(0, 0, 6, 1));
        leavesAll("request(0, 0, 1, 0)", BAD_ARGUMENT, x -> x.request(0, 0, 1, 0));
        leavesAll("request(0, 0, 1, 100)", BAD_ARGUMENT, x -> x.request(0, 0, 1, 100));
    }

    private static void oneRequestTooMany() {
        sentence(3, "IllegalStateException: there are 32.");
        leavesAll("request(0, 0, 1, 10)", NOT_NOW, x -> x.request(0, 0, 1, 10));
    }

    private static void stepsThatCannotBeDone() {
        sentence(4, "IllegalStateException: it can't be done now");
        for (int step = 0; step < STEPS; step++) {
            int own = step;
            leavesAll(named("step", step), NOT_NOW, x -> x.act(own <= 6 ? 0 : 1, 0, own, own == CONDITION ? 1 : 0));
        }
    }

    private static void stepsWithAWrongArgument() {
        sentence(4, "(so, too, for an arg that is no such copy or price)");
        leavesAll("a copy below", NOT_NOW, x -> x.act(1, 0, PROMISE, -1));
        leavesAll("a copy above", NOT_NOW, x -> x.act(1, 0, PROMISE, 32));
        leavesAll("a price below", NOT_NOW, x -> x.act(1, 0, CONDITION, 0));
        leavesAll("a price above", NOT_NOW, x -> x.act(1, 0, CONDITION, 1001));
    }

    private static void stepsOfOthers() {
        sentence(4, "IllegalArgumentException: there is no such loan or step, or the library is neither its requester "
            + "(0 .. 6) nor one of its suppliers (7 .. 14).");
        for (int step = 0; step < STEPS; step++) {
            int own = step;
            leavesAll(named("step", step), BAD_ARGUMENT, x -> x.act(own <= 6 ? 1 : 0, 0, own, 0));
        }
        leavesAll("step -1", BAD_ARGUMENT, x -> x.act(0, 0, -1, 0));
        leavesAll("step 15", BAD_ARGUMENT, x -> x.act(1, 0, 15, 0));
        leavesAll("loan -1", BAD_ARGUMENT, x -> x.act(0, -1, CANCEL, 0));
        leavesAll("loan 32", BAD_ARGUMENT, x -> x.act(1, 32, REFUSE, 0));
    }

    private static void daysThatDoNotPass() {
        sentence(5, "false if n isn't 1 .. 1000");
        for (int n : new int[] {0, -1, 1001, Integer.MIN_VALUE, Integer.MAX_VALUE}) {
            leavesAll(named("pass", n), 0, x -> x.pass(n) ? 1 : 0);
        }
    }

    private static void resendOfOthers() {
        sentence(6, "IllegalArgumentException: it is neither.");
        leavesAll("resend(2, 0)", BAD_ARGUMENT, x -> x.resend(2, 0));
        leavesAll("resend(6, 0)", BAD_ARGUMENT, x -> x.resend(6, 0));
        leavesAll("resend(0, -1)", BAD_ARGUMENT, x -> x.resend(0, -1));
        leavesAll("resend(0, 32)", BAD_ARGUMENT, x -> x.resend(0, 32));
    }

    private static void lettersThatAreNotCarried() {
        sentence(8, "NONE if there is none such.");
        leavesAll("carry(-1)", NONE, x -> x.carry(-1));
        leavesAll("carry(64)", NONE, x -> x.carry(64));
        leavesAll("carry(letters())", NONE, x -> x.carry(x.letters()));
    }

    private static void lettersThatAreNotDropped() {
        sentence(9, "false if there is none such.");
        leavesAll("drop(-1)", 0, x -> x.drop(-1) ? 1 : 0);
        leavesAll("drop(64)", 0, x -> x.drop(64) ? 1 : 0);
        leavesAll("drop(letters())", 0, x -> x.drop(x.letters()) ? 1 : 0);
    }

    private static void questionsInVain() {
        sentence(11, "NONE if there is none such, or for another what.");
        leavesAll("letter(64, 0)", NONE, x -> x.letter(64, 0));
        leavesAll("letter(0, 7)", NONE, x -> x.letter(0, 7));
        leavesAll("book(0, 0, 8)", NONE, x -> x.book(0, 0, 8));
        leavesAll("book(6, 0, 0)", NONE, x -> x.book(6, 0, 0));
        leavesAll("book(0, 32, 0)", NONE, x -> x.book(0, 32, 0));
        leavesAll("supplier(32)", NONE, x -> x.supplier(32));
        leavesAll("holder(32)", NONE, x -> x.holder(32));
        leavesAll("promised(32)", NONE, x -> x.promised(32));
        leavesAll("balance(6)", 0, x -> x.balance(6));
        leavesAll("queue(6, 0)", NONE, x -> x.queue(6, 0));
        leavesAll("settled(32)", 0, x -> x.settled(32) ? 1 : 0);
    }

    public static void main(String[] args) {
        runTestsOf(RefusedCalls.class);
    }
}
