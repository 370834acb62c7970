import java.util.ArrayList;

/**
 * Libraries that lend volumes to one another by letters which may be late, lost, doubled, or cross
 * each other: each side keeps its own book of a loan, and never do both think that they have the volume.
 */
public final class LoanLetters {
    public static final int NONE = -1;
    public static final int POST = 6, LOST = 7;

    private static final int LIBRARIES = 6;
    private static final int TITLES = 8;
    private static final int MOST_COPIES = 32;
    private static final int MOST_LOANS = 32;
    private static final int MOST_DAYS = 99;
    private static final int MOST_PASSED = 1000;
    private static final int MOST_PRICE = 1000;
    private static final int MOST_GRANTS = 3;
    private static final int RECALL_DAYS = 7;
    private static final int CENTS_A_DAY = 10;
    private static final int CENTS_LOST = 4000;

    private final Copy[] copies = new Copy[MOST_COPIES];
    private final Loan[] loans = new Loan[MOST_LOANS];
    private final int[] balances = new int[LIBRARIES];
    private final Row row = new Row();
    private final Letter bare = new Letter(0, Kind.BARE, 0);
    private int copyCount;
    private int loanCount;
    private int day;

    public LoanLetters() {
    }

    public int addCopy(int lib, int title) throws IllegalArgumentException, IllegalStateException {
        if (!isLibrary(lib) || !isTitle(title)) {
            throw new IllegalArgumentException("no such library or title");
        }
        if (copyCount >= MOST_COPIES) {
            throw new IllegalStateException("there are 32 copies");
        }
        copies[copyCount] = new Copy(lib, title);
        copyCount++;
        return copyCount - 1;
    }

    public int request(int lib, int title, int start, int days)
            throws IllegalArgumentException, IllegalStateException {
        if (!isLibrary(lib) || !isTitle(title) || !isLibrary(start) || days < 1 || days > MOST_DAYS) {
            throw new IllegalArgumentException("no such library, title, beginning of the rota, or days");
        }
        if (loanCount >= MOST_LOANS) {
            throw new IllegalStateException("there are 32 loans");
        }
        Loan loan = new Loan(loanCount, lib, title, start, days);
        loans[loanCount] = loan;
        loanCount++;
        requesterWrites(loan, Asker.ASKING, Kind.REQUEST, days);
        return loan.number;
    }

    public int act(int lib, int loan, int step, int arg) throws IllegalArgumentException, IllegalStateException {
        Loan its = loanAt(loan);
        if (its == null || step < 0 || step > Step.LAST) {
            throw new IllegalArgumentException("no such loan or step");
        }
        if (step <= Step.LAST_OF_REQUESTER) {
            if (lib != its.requester) {
                throw new IllegalArgumentException("the library is not the requester");
            }
            if (!requesterDoes(its, step)) {
                throw new IllegalStateException("the requester can't do it now");
            }
            return its.page.state;
        }
        Deal deal = its.dealWith(lib);
        if (deal == null) {
            throw new IllegalArgumentException("the library is none of the suppliers");
        }
        if (!supplierDoes(its, deal, step, arg)) {
            throw new IllegalStateException("the supplier can't do it now");
        }
        return deal.page.state;
    }

    public boolean pass(int n) {
        if (n < 1 || n > MOST_PASSED) {
            return false;
        }
        day += n;
        return true;
    }

    public int resend(int lib, int loan) throws IllegalArgumentException {
        Side side = sideOf(loanAt(loan), lib);
        if (side == null) {
            throw new IllegalArgumentException("the library is neither requester nor supplier");
        }
        int known = side.acked;
        int sent = side.kept.size();
        for (int k = known; k < sent; k++) {
            row.add(side, side.kept.get(k));
        }
        row.add(side, bare);
        return sent - known + 1;
    }

    public int letters() {
        return row.size;
    }

    public int carry(int i) {
        Loan loan = loanAt(row.told(i, Row.LOAN));
        if (loan == null) {
            return NONE;
        }
        boolean toRequester = row.told(i, Row.TO) == loan.requester;
        Deal deal = loan.dealWith(row.told(i, toRequester ? Row.FROM : Row.TO));
        if (deal == null) {
            return NONE;
        }
        Side goal = toRequester ? deal.requesterSide : deal.supplierSide;
        Side sender = toRequester ? deal.supplierSide : deal.requesterSide;
        goal.acked = Math.max(goal.acked, row.told(i, Row.SEEN));
        sender.holdAtGoal(row.told(i, Row.NUMBER));
        int before = goal.seen;
        // What is taken may make the goal write, never the sender: so the sender's letters stay as many.
        int sent = sender.kept.size();
        for (int k = before; k < sent && sender.kept.get(k).held; k++) {
            // SEEN grows first: an answer that is sent at once tells of this letter too.
            goal.seen++;
            if (toRequester) {
                requesterTakes(loan, deal, sender.kept.get(k));
            } else {
                supplierTakes(deal, sender.kept.get(k));
            }
        }
        return goal.seen - before;
    }

    public boolean drop(int i) {
        return row.remove(i);
    }

    public int letter(int i, int what) {
        return row.told(i, what);
    }

    public int book(int lib, int loan, int what) {
        Loan its = loanAt(loan);
        Side side = sideOf(its, lib);
        if (its == null || side == null) {
            return NONE;
        }
        if (lib == its.requester) {
            return entry(its.page, side, Asker.hasCopy(its.page.state), what);
        }
        Deal deal = its.dealWith(lib);
        return deal == null ? NONE : entry(deal.page, side, deal.page.state == Lender.PROMISED, what);
    }

    public int supplier(int loan) {
        Loan its = loanAt(loan);
        return its == null ? NONE : its.present.supplier;
    }

    public int holder(int copy) {
        Copy its = copyAt(copy);
        return its == null ? NONE : its.heldBy;
    }

    public int promised(int copy) {
        Copy its = copyAt(copy);
        return its == null ? NONE : its.promisedFor;
    }

    public int balance(int lib) {
        return isLibrary(lib) ? balances[lib] : 0;
    }

    public int queue(int lib, int title) {
        if (!isLibrary(lib) || !isTitle(title)) {
            return NONE;
        }
        int waiting = 0;
        for (int k = 0; k < loanCount; k++) {
            if (waitsAt(lib, title, loanAt(k))) {
                waiting++;
            }
        }
        return waiting;
    }

    public boolean settled(int loan) {
        Loan its = loanAt(loan);
        if (its == null) {
            return false;
        }
        Side requester = its.present.requesterSide;
        Side supplier = its.present.supplierSide;
        return requester.allTakenAndKnown(supplier) && supplier.allTakenAndKnown(requester);
    }

    private static boolean isLibrary(int lib) {
        return lib >= 0 && lib < LIBRARIES;
    }

    private static boolean isTitle(int title) {
        return title >= 0 && title < TITLES;
    }

    private Loan loanAt(int loan) {
        return loan >= 0 && loan < loanCount ? loans[loan] : null;
    }

    private Copy copyAt(int copy) {
        return copy >= 0 && copy < copyCount ? copies[copy] : null;
    }

    private static boolean waitsAt(int lib, int title, Loan loan) {
        Deal deal = loan == null || loan.title != title ? null : loan.dealWith(lib);
        return deal != null && deal.page.state == Lender.ASKED;
    }

    /** The side from which the library writes now, or null if the loan is none of its own. */
    private static Side sideOf(Loan loan, int lib) {
        if (loan == null) {
            return null;
        }
        if (lib == loan.requester) {
            return loan.present.requesterSide;
        }
        Deal deal = loan.dealWith(lib);
        return deal == null ? null : deal.supplierSide;
    }

    private static int entry(Page page, Side side, boolean hasCopy, int what) {
        switch (what) {
            case 0: return page.state;
            case 1: return page.due;
            case 2: return page.price;
            case 3: return page.charge;
            case 4: return side.kept.size();
            case 5: return side.seen;
            case 6: return side.acked;
            case 7: return hasCopy ? 1 : 0;
            default: return NONE;
        }
    }

    private void send(Side side, int kind, int number) {
        if (!side.isFull()) {
            row.add(side, side.write(kind, number));
        }
    }

    /** Answers true, so that a step can end with it. */
    private boolean requesterWrites(Loan loan, int state, int kind, int number) {
        loan.page.state = state;
        send(loan.present.requesterSide, kind, number);
        return true;
    }

    /** Answers true, so that a step can end with it. */
    private boolean supplierWrites(Deal deal, int state, int kind, int number) {
        deal.page.state = state;
        send(deal.supplierSide, kind, number);
        return true;
    }

    private void addToBalance(int lib, int cents) {
        if (isLibrary(lib)) {
            balances[lib] += cents;
        }
    }

    // ---- the requester's steps: each answers whether it could be done ----

    private boolean requesterDoes(Loan loan, int step) {
        switch (step) {
            case Step.ACCEPT: return accept(loan);
            case Step.DECLINE: return decline(loan);
            case Step.CANCEL: return cancel(loan);
            case Step.RECEIVE: return receive(loan);
            case Step.RENEW: return renew(loan);
            case Step.GIVE_BACK: return giveBack(loan);
            case Step.LOSE: return lose(loan);
            default: return false;
        }
    }

    private boolean accept(Loan loan) {
        if (loan.page.state != Asker.CONDITION) {
            return false;
        }
        return requesterWrites(loan, Asker.ASKING, Kind.ACCEPT, 0);
    }

    private boolean decline(Loan loan) {
        if (loan.page.state != Asker.CONDITION) {
            return false;
        }
        send(loan.present.requesterSide, Kind.DECLINE, 0);
        return askNext(loan);
    }

    /** Answers true, so that a step can end with it. */
    private boolean askNext(Loan loan) {
        loan.page.clear();
        if (loan.turnToNext()) {
            loan.page.state = Asker.ASKING;
            send(loan.present.requesterSide, Kind.REQUEST, loan.days);
        } else {
            loan.page.state = Asker.UNFILLED;
        }
        return true;
    }

    private boolean cancel(Loan loan) {
        int state = loan.page.state;
        if (state != Asker.ASKING && state != Asker.CONDITION && state != Asker.PROMISED) {
            return false;
        }
        return requesterWrites(loan, Asker.CANCELLING, Kind.CANCEL, 0);
    }

    private boolean receive(Loan loan) {
        if (loan.page.state != Asker.COMING) {
            return false;
        }
        loan.present.moveCopy(loan.requester);
        return requesterWrites(loan, Asker.HERE, Kind.RECEIVED, 0);
    }

    private boolean renew(Loan loan) {
        if (loan.page.state != Asker.HERE) {
            return false;
        }
        return requesterWrites(loan, Asker.RENEWING, Kind.RENEW, 0);
    }

    private boolean giveBack(Loan loan) {
        if (!Asker.hasCopy(loan.page.state)) {
            return false;
        }
        loan.present.moveCopy(POST);
        return requesterWrites(loan, Asker.BACK, Kind.RETURNED, 0);
    }

    private boolean lose(Loan loan) {
        if (!Asker.hasCopy(loan.page.state)) {
            return false;
        }
        loan.present.moveCopy(LOST);
        addToBalance(loan.requester, -CENTS_LOST);
        return requesterWrites(loan, Asker.LOST, Kind.LOST, 0);
    }

    // ---- the supplier's steps: each answers whether it could be done ----

    private boolean supplierDoes(Loan loan, Deal deal, int step, int arg) {
        switch (step) {
            case Step.PROMISE: return promiseCopy(loan, deal, copyAt(arg));
            case Step.CONDITION: return offer(deal, arg);
            case Step.REFUSE: return refuse(deal);
            case Step.SHIP: return ship(loan, deal);
            case Step.GRANT: return grant(loan, deal);
            case Step.DENY: return deny(deal);
            case Step.RECALL: return recall(deal);
            case Step.CHECK_IN: return checkIn(deal);
            default: return false;
        }
    }

    private boolean promiseCopy(Loan loan, Deal deal, Copy copy) {
        if (deal.page.state != Lender.ASKED || copy == null || !copy.canGo(deal.supplier, loan.title)) {
            return false;
        }
        deal.copy = copy;
        copy.promisedFor = loan.number;
        return supplierWrites(deal, Lender.PROMISED, Kind.PROMISE, 0);
    }

    private boolean offer(Deal deal, int price) {
        boolean hasPrice = deal.page.price != 0;
        if (deal.page.state != Lender.ASKED || hasPrice || price < 1 || price > MOST_PRICE) {
            return false;
        }
        deal.page.price = price;
        return supplierWrites(deal, Lender.OFFERED, Kind.CONDITION, price);
    }

    private boolean refuse(Deal deal) {
        if (deal.page.state != Lender.ASKED) {
            return false;
        }
        return supplierWrites(deal, Lender.REFUSED, Kind.REFUSE, 0);
    }

    private boolean ship(Loan loan, Deal deal) {
        if (deal.page.state != Lender.PROMISED) {
            return false;
        }
        deal.moveCopy(POST);
        deal.page.due = day + loan.days;
        return supplierWrites(deal, Lender.SHIPPED, Kind.SHIPPED, deal.page.due);
    }

    private boolean grant(Loan loan, Deal deal) {
        if (deal.page.state != Lender.RENEWAL || deal.granted >= MOST_GRANTS) {
            return false;
        }
        deal.granted++;
        deal.page.due += loan.days;
        return supplierWrites(deal, Lender.OUT, Kind.RENEWED, deal.page.due);
    }

    private boolean deny(Deal deal) {
        if (deal.page.state != Lender.RENEWAL) {
            return false;
        }
        return supplierWrites(deal, Lender.OUT, Kind.RENEWED, 0);
    }

    private boolean recall(Deal deal) {
        if (deal.page.state != Lender.OUT && deal.page.state != Lender.RENEWAL) {
            return false;
        }
        deal.page.due = Math.min(deal.page.due, day + RECALL_DAYS);
        return supplierWrites(deal, Lender.WANTED, Kind.RECALL, deal.page.due);
    }

    private boolean checkIn(Deal deal) {
        if (deal.page.state != Lender.RETURNING) {
            return false;
        }
        deal.bringCopyHome();
        deal.page.charge = CENTS_A_DAY * Math.max(0, day - deal.page.due) + deal.page.price;
        addToBalance(deal.supplier, deal.page.charge);
        return supplierWrites(deal, Lender.CLOSED, Kind.CHECKED, deal.page.charge);
    }

    // ---- letters taken ----

    private void supplierTakes(Deal deal, Letter letter) {
        int state = deal.page.state;
        switch (letter.kind) {
            case Kind.REQUEST:
                deal.turn(state == Lender.NONE, Lender.ASKED);
                break;
            case Kind.ACCEPT:
                deal.turn(state == Lender.OFFERED, Lender.ASKED);
                break;
            case Kind.DECLINE:
                deal.turn(state == Lender.OFFERED, Lender.REFUSED);
                break;
            case Kind.CANCEL:
                supplierIsCancelled(deal);
                break;
            case Kind.RECEIVED:
                deal.turn(state == Lender.SHIPPED, Lender.OUT);
                break;
            case Kind.RENEW:
                deal.turn(state == Lender.OUT, Lender.RENEWAL);
                break;
            case Kind.RETURNED:
                deal.turn(Lender.isOut(state), Lender.RETURNING);
                break;
            case Kind.LOST:
                supplierHearsOfLoss(deal);
                break;
            default:
                break;
        }
    }

    private void supplierIsCancelled(Deal deal) {
        int state = deal.page.state;
        if (state == Lender.ASKED || state == Lender.OFFERED || state == Lender.PROMISED) {
            deal.freeCopy();
            supplierWrites(deal, Lender.CANCELLED, Kind.CANCELLED, 0);
        }
    }

    private void supplierHearsOfLoss(Deal deal) {
        if (Lender.isOut(deal.page.state)) {
            deal.freeCopy();
            deal.page.state = Lender.LOST;
            addToBalance(deal.supplier, CENTS_LOST);
        }
    }

    private void requesterTakes(Loan loan, Deal deal, Letter letter) {
        // One that isn't asked any more can change nothing in the book of a later supplier.
        if (deal != loan.present) {
            return;
        }
        switch (letter.kind) {
            case Kind.PROMISE:
            case Kind.CONDITION:
            case Kind.REFUSE:
            case Kind.CANCELLED:
                requesterHearsAnswer(loan, letter);
                break;
            case Kind.SHIPPED:
            case Kind.RENEWED:
            case Kind.RECALL:
                requesterHearsOfDue(loan.page, letter);
                break;
            case Kind.CHECKED:
                requesterIsCharged(loan, letter.told);
                break;
            default:
                break;
        }
    }

    private void requesterHearsAnswer(Loan loan, Letter letter) {
        Page page = loan.page;
        if (page.state == Asker.CANCELLING) {
            if (letter.kind == Kind.REFUSE || letter.kind == Kind.CANCELLED) {
                page.state = Asker.CANCELLED;
            }
        } else if (page.state == Asker.ASKING) {
            if (letter.kind == Kind.PROMISE) {
                page.state = Asker.PROMISED;
            } else if (letter.kind == Kind.CONDITION) {
                page.state = Asker.CONDITION;
                page.price = letter.told;
            } else if (letter.kind == Kind.REFUSE) {
                askNext(loan);
            }
        }
    }

    private static void requesterHearsOfDue(Page page, Letter letter) {
        int state = page.state;
        if (letter.kind == Kind.SHIPPED && (state == Asker.PROMISED || state == Asker.CANCELLING)) {
            page.state = Asker.COMING;
            page.due = letter.told;
        } else if (letter.kind == Kind.RENEWED && state == Asker.RENEWING) {
            page.state = Asker.HERE;
            page.due = letter.told != 0 ? letter.told : page.due;
        } else if (letter.kind == Kind.RECALL && (state == Asker.HERE || state == Asker.RENEWING)) {
            page.state = Asker.RECALLED;
            page.due = letter.told;
        }
    }

    private void requesterIsCharged(Loan loan, int charge) {
        if (loan.page.state == Asker.BACK) {
            loan.page.state = Asker.CLOSED;
            loan.page.charge = charge;
            addToBalance(loan.requester, -charge);
        }
    }

    /** The kinds of letters. */
    private static final class Kind {
        static final int BARE = 0, REQUEST = 1, PROMISE = 2, CONDITION = 3, REFUSE = 4, ACCEPT = 5;
        static final int DECLINE = 6, SHIPPED = 7, RECEIVED = 8, RENEW = 9, RENEWED = 10, RECALL = 11;
        static final int RETURNED = 12, CHECKED = 13, LOST = 14, CANCEL = 15, CANCELLED = 16;
    }

    /** The steps of clerks. */
    private static final class Step {
        static final int ACCEPT = 0, DECLINE = 1, CANCEL = 2, RECEIVE = 3, RENEW = 4, GIVE_BACK = 5, LOSE = 6;
        static final int LAST_OF_REQUESTER = 6;
        static final int PROMISE = 7, CONDITION = 8, REFUSE = 9, SHIP = 10, GRANT = 11, DENY = 12;
        static final int RECALL = 13, CHECK_IN = 14;
        static final int LAST = 14;
    }

    /** The requester's states. */
    private static final class Asker {
        static final int ASKING = 0, CONDITION = 1, PROMISED = 2, COMING = 3, HERE = 4, RENEWING = 5;
        static final int RECALLED = 6, BACK = 7, CLOSED = 8, UNFILLED = 9, CANCELLING = 10, CANCELLED = 11;
        static final int LOST = 12;

        static boolean hasCopy(int state) {
            return state == HERE || state == RENEWING || state == RECALLED;
        }
    }

    /** The supplier's states. */
    private static final class Lender {
        static final int NONE = 0, ASKED = 1, OFFERED = 2, PROMISED = 3, SHIPPED = 4, OUT = 5, RENEWAL = 6;
        static final int WANTED = 7, RETURNING = 8, CLOSED = 9, REFUSED = 10, CANCELLED = 11, LOST = 12;

        static boolean isOut(int state) {
            return state == OUT || state == RENEWAL || state == WANTED;
        }
    }

    /** What one library has written down of a loan. */
    private static final class Page {
        int state;
        int due;
        int price;
        int charge;

        void clear() {
            due = 0;
            price = 0;
            charge = 0;
        }
    }

    private static final class Copy {
        final int home;
        final int title;
        int heldBy;
        int promisedFor = LoanLetters.NONE;

        Copy(int home, int title) {
            this.home = home;
            this.title = title;
            this.heldBy = home;
        }

        boolean canGo(int lib, int wanted) {
            return title == wanted && home == lib && heldBy == lib && promisedFor == LoanLetters.NONE;
        }
    }

    /** A letter as its sender keeps it; held once it has come to its goal. */
    private static final class Letter {
        final int number;
        final int kind;
        final int told;
        boolean held;

        Letter(int number, int kind, int told) {
            this.number = number;
            this.kind = kind;
            this.told = told;
        }
    }

    /** A requester with one of its suppliers, or a supplier: the letters that it sent, and what it knows. */
    private static final class Side {
        /** A call writes at most one letter of a side, and an object is used for 512 calls. */
        static final int MOST_KEPT = 512;

        final int loan;
        final int from;
        final int to;
        final ArrayList<Letter> kept = new ArrayList<>();
        int seen;
        int acked;

        Side(int loan, int from, int to) {
            this.loan = loan;
            this.from = from;
            this.to = to;
        }

        boolean isFull() {
            return kept.size() >= MOST_KEPT;
        }

        Letter write(int kind, int told) {
            Letter letter = new Letter(kept.size() + 1, kind, told);
            kept.add(letter);
            return letter;
        }

        /** A letter that was taken before stays held: the goal looks only at those above its SEEN. */
        void holdAtGoal(int number) {
            if (number >= 1 && number <= kept.size()) {
                kept.get(number - 1).held = true;
            }
        }

        boolean allTakenAndKnown(Side other) {
            return other.seen == kept.size() && acked == kept.size();
        }
    }

    /** A loan between its requester and one of its suppliers; the page is the supplier's. */
    private static final class Deal {
        final int supplier;
        final Side requesterSide;
        final Side supplierSide;
        final Page page = new Page();
        Copy copy;
        int granted;

        Deal(int loan, int requester, int supplier) {
            this.supplier = supplier;
            this.requesterSide = new Side(loan, requester, supplier);
            this.supplierSide = new Side(loan, supplier, requester);
        }

        void turn(boolean allowed, int state) {
            if (allowed) {
                page.state = state;
            }
        }

        void moveCopy(int holder) {
            if (copy != null) {
                copy.heldBy = holder;
            }
        }

        void freeCopy() {
            if (copy != null) {
                copy.promisedFor = LoanLetters.NONE;
            }
        }

        void bringCopyHome() {
            if (copy != null) {
                copy.heldBy = copy.home;
                copy.promisedFor = LoanLetters.NONE;
            }
        }
    }

    /** A loan with its rota; the page is the requester's. */
    private static final class Loan {
        final int number;
        final int requester;
        final int title;
        final int start;
        final int days;
        final Deal[] deals = new Deal[LIBRARIES];
        final Page page = new Page();
        Deal present;

        Loan(int number, int requester, int title, int start, int days) {
            this.number = number;
            this.requester = requester;
            this.title = title;
            this.start = start;
            this.days = days;
            int first = start == requester ? (start + 1) % LIBRARIES : start;
            this.present = new Deal(number, requester, first);
            this.deals[first] = this.present;
        }

        Deal dealWith(int lib) {
            return isLibrary(lib) ? deals[lib] : null;
        }

        /** False if the rota has come to its end; then the one asked last stays the present one. */
        boolean turnToNext() {
            for (int k = 1; k < LIBRARIES; k++) {
                int lib = (start + k) % LIBRARIES;
                if (lib != requester && deals[lib] == null) {
                    present = new Deal(number, requester, lib);
                    deals[lib] = present;
                    return true;
                }
            }
            return false;
        }
    }

    /** The letters that wait, the oldest first; as numbers, so that sending again makes no objects. */
    private static final class Row {
        static final int LOAN = 0, FROM = 1, TO = 2, NUMBER = 3, SEEN = 4, KIND = 5, TOLD = 6;
        static final int WIDTH = 7;
        static final int MOST = 64;

        final int[] cells = new int[MOST * WIDTH];
        int size;

        int told(int i, int what) {
            boolean isThere = i >= 0 && i < size && what >= 0 && what < WIDTH;
            return isThere ? cells[i * WIDTH + what] : LoanLetters.NONE;
        }

        void add(Side side, Letter letter) {
            if (size >= MOST) {
                size = MOST - 1;
                System.arraycopy(cells, WIDTH, cells, 0, size * WIDTH);
            }
            int at = size * WIDTH;
            cells[at + LOAN] = side.loan;
            cells[at + FROM] = side.from;
            cells[at + TO] = side.to;
            cells[at + NUMBER] = letter.number;
            cells[at + SEEN] = side.seen;
            cells[at + KIND] = letter.kind;
            cells[at + TOLD] = letter.told;
            size++;
        }

        boolean remove(int i) {
            if (i < 0 || i >= size) {
                return false;
            }
            size--;
            System.arraycopy(cells, (i + 1) * WIDTH, cells, i * WIDTH, (size - i) * WIDTH);
            return true;
        }
    }
}
