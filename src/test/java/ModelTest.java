import java.util.ArrayList;
import java.util.Arrays;
import java.util.HashMap;
import java.util.List;
import java.util.Map;
import java.util.Random;
import java.util.TreeMap;
import java.util.TreeSet;

/**
 * Plays runs of calls (from fixed seeds) on the class and on a slow model that looks its steps up in the
 * document's tables, and compares every answer. No object is called more than 512 times: where more is asked at
 * the end of a run, the run is played again on a new object. It fails, too, if some row of the tables was never
 * played.
 */
public final class ModelTest {
    private static final int RUNS = 3000;
    private static final int MOST_CALLS = 512;
    private static final int FEWEST_LOOKS = 112;

    private static final List<String> ASKER = List.of("ASKING", "CONDITION", "PROMISED", "COMING", "HERE",
            "RENEWING", "RECALLED", "BACK", "CLOSED", "UNFILLED", "CANCELLING", "CANCELLED", "LOST");
    private static final List<String> LENDER = List.of("NONE", "ASKED", "OFFERED", "PROMISED", "SHIPPED", "OUT",
            "RENEWAL", "WANTED", "RETURNING", "CLOSED", "REFUSED", "CANCELLED", "LOST");
    private static final List<String> KINDS = List.of("BARE", "REQUEST", "PROMISE", "CONDITION", "REFUSE", "ACCEPT",
            "DECLINE", "SHIPPED", "RECEIVED", "RENEW", "RENEWED", "RECALL", "RETURNED", "CHECKED", "LOST", "CANCEL",
            "CANCELLED");

    /** Step: in which states: the new state: the letter. */
    private static final String[] STEPS = {
        "CONDITION: ASKING: ACCEPT",
        "CONDITION: NEXT: DECLINE",
        "ASKING, CONDITION, PROMISED: CANCELLING: CANCEL",
        "COMING: HERE: RECEIVED",
        "HERE: RENEWING: RENEW",
        "HERE, RENEWING, RECALLED: BACK: RETURNED",
        "HERE, RENEWING, RECALLED: LOST: LOST",
        "ASKED: PROMISED: PROMISE",
        "ASKED: OFFERED: CONDITION",
        "ASKED: REFUSED: REFUSE",
        "PROMISED: SHIPPED: SHIPPED",
        "RENEWAL: OUT: RENEWED",
        "RENEWAL: OUT: RENEWED",
        "OUT, RENEWAL: WANTED: RECALL",
        "RETURNING: CLOSED: CHECKED",
    };

    private static final String[] TAKEN_BY_SUPPLIER = {
        "REQUEST: NONE: ASKED",
        "ACCEPT: OFFERED: ASKED",
        "DECLINE: OFFERED: REFUSED",
        "CANCEL: ASKED, OFFERED, PROMISED: CANCELLED",
        "RECEIVED: SHIPPED: OUT",
        "RENEW: OUT: RENEWAL",
        "RETURNED: OUT, RENEWAL, WANTED: RETURNING",
        "LOST: OUT, RENEWAL, WANTED: LOST",
    };

    private static final String[] TAKEN_BY_REQUESTER = {
        "PROMISE: ASKING: PROMISED",
        "CONDITION: ASKING: CONDITION",
        "REFUSE: ASKING: NEXT",
        "REFUSE: CANCELLING: CANCELLED",
        "SHIPPED: PROMISED, CANCELLING: COMING",
        "RENEWED: RENEWING: HERE",
        "RECALL: HERE, RENEWING: RECALLED",
        "CHECKED: BACK: CLOSED",
        "CANCELLED: CANCELLING: CANCELLED",
    };

    private static final TreeSet<String> played = new TreeSet<>();
    private static int wrong = 0;

    // ---- the model ----

    private static final class Refused extends RuntimeException {
        private static final long serialVersionUID = 1L;
        final String name;

        Refused(String name) {
            this.name = name;
        }
    }

    private static final class Note {
        int loan, from, to, number, seen, kind, told;

        Note again(int seenNow) {
            Note n = new Note();
            n.loan = loan;
            n.from = from;
            n.to = to;
            n.number = number;
            n.seen = seenNow;
            n.kind = kind;
            n.told = told;
            return n;
        }

        int field(int what) {
            int[] all = {loan, from, to, number, seen, kind, told};
            return what >= 0 && what < all.length ? all[what] : -1;
        }
    }

    /** One end of the letters between two libraries about one loan. */
    private static final class End {
        final List<Note> sent = new ArrayList<>();
        final TreeMap<Integer, Note> held = new TreeMap<>();
        int seen, acked;
    }

    private static final class Record {
        String state;
        int due, price, charge, granted;
        int copy = -1;
    }

    private static final class MLoan {
        int requester, title, days;
        final List<Integer> rota = new ArrayList<>();
        final List<Integer> asked = new ArrayList<>();
        final Record own = new Record();
        final Map<Integer, Record> suppliers = new HashMap<>();
        /** Keyed by "from>to". */
        final Map<String, End> ends = new HashMap<>();

        int present() {
            return asked.get(asked.size() - 1);
        }

        End end(int who, int other) {
            return ends.computeIfAbsent(who + ">" + other, k -> new End());
        }
    }

    private static final class Model {
        final List<int[]> copies = new ArrayList<>(); // home, title, holder
        final List<MLoan> loans = new ArrayList<>();
        final List<Note> row = new ArrayList<>();
        final int[] balance = new int[6];
        int day;

        MLoan loan(int n) {
            return n >= 0 && n < loans.size() ? loans.get(n) : null;
        }

        int addCopy(int lib, int title) {
            refuseUnless(lib >= 0 && lib <= 5 && title >= 0 && title <= 7, "IllegalArgumentException");
            refuseUnless(copies.size() < 32, "IllegalStateException");
            copies.add(new int[] {lib, title, lib});
            return copies.size() - 1;
        }

        int request(int lib, int title, int start, int days) {
            refuseUnless(lib >= 0 && lib <= 5 && title >= 0 && title <= 7 && start >= 0 && start <= 5 && days >= 1
                    && days <= 99, "IllegalArgumentException");
            refuseUnless(loans.size() < 32, "IllegalStateException");
            MLoan l = new MLoan();
            l.requester = lib;
            l.title = title;
            l.days = days;
            for (int k = 0; k < 6; k++) {
                if ((start + k) % 6 != lib) {
                    l.rota.add((start + k) % 6);
                }
            }
            loans.add(l);
            next(l);
            return loans.size() - 1;
        }

        void next(MLoan l) {
            l.own.due = 0;
            l.own.price = 0;
            l.own.charge = 0;
            if (l.asked.size() == l.rota.size()) {
                l.own.state = "UNFILLED";
                return;
            }
            int lib = l.rota.get(l.asked.size());
            l.asked.add(lib);
            Record r = new Record();
            r.state = "NONE";
            l.suppliers.put(lib, r);
            l.own.state = "ASKING";
            write(l, l.requester, lib, "REQUEST", l.days);
        }

        void write(MLoan l, int from, int to, String kind, int told) {
            End end = l.end(from, to);
            Note n = new Note();
            n.loan = loans.indexOf(l);
            n.from = from;
            n.to = to;
            n.number = kind.equals("BARE") ? 0 : end.sent.size() + 1;
            n.seen = end.seen;
            n.kind = KINDS.indexOf(kind);
            n.told = told;
            if (!kind.equals("BARE")) {
                end.sent.add(n);
            }
            post(n);
        }

        void post(Note n) {
            row.add(n);
            if (row.size() > 64) {
                row.remove(0);
            }
        }

        int promisedFor(int copy) {
            for (int k = 0; k < loans.size(); k++) {
                for (Record r : loans.get(k).suppliers.values()) {
                    if (r.copy == copy && !List.of("CLOSED", "CANCELLED", "LOST").contains(r.state)) {
                        return k;
                    }
                }
            }
            return -1;
        }

        int act(int lib, int loan, int step, int arg) {
            MLoan l = loan(loan);
            refuseUnless(l != null && step >= 0 && step <= 14, "IllegalArgumentException");
            boolean requester = step <= 6;
            refuseUnless(requester ? lib == l.requester : l.suppliers.containsKey(lib), "IllegalArgumentException");
            Record r = requester ? l.own : l.suppliers.get(lib);
            String[] rule = STEPS[step].split(": ");
            refuseUnless(Arrays.asList(rule[0].split(", ")).contains(r.state), "IllegalStateException");
            int told = requester ? 0 : supplierEffect(l, r, lib, step, arg);
            played.add("step " + step + " in " + r.state);
            if (requester) {
                requesterEffect(l, step);
            }
            write(l, lib, requester ? l.present() : l.requester, rule[2], told);
            if (rule[1].equals("NEXT")) {
                next(l);
            } else {
                r.state = rule[1];
            }
            return requester ? ASKER.indexOf(r.state) : LENDER.indexOf(r.state);
        }

        void requesterEffect(MLoan l, int step) {
            int copy = l.suppliers.get(l.present()).copy;
            if (step == 3) {
                copies.get(copy)[2] = l.requester;
            } else if (step == 5) {
                copies.get(copy)[2] = 6;
            } else if (step == 6) {
                copies.get(copy)[2] = 7;
                balance[l.requester] -= 4000;
            }
        }

        int supplierEffect(MLoan l, Record r, int lib, int step, int arg) {
            switch (step) {
                case 7:
                    refuseUnless(arg >= 0 && arg < copies.size(), "IllegalStateException");
                    int[] c = copies.get(arg);
                    refuseUnless(c[0] == lib && c[1] == l.title && c[2] == lib && promisedFor(arg) == -1,
                            "IllegalStateException");
                    r.copy = arg;
                    return 0;
                case 8:
                    refuseUnless(r.price == 0 && arg >= 1 && arg <= 1000, "IllegalStateException");
                    r.price = arg;
                    return arg;
                case 10:
                    r.due = day + l.days;
                    copies.get(r.copy)[2] = 6;
                    return r.due;
                case 11:
                    refuseUnless(r.granted < 3, "IllegalStateException");
                    r.granted++;
                    r.due = r.due + l.days;
                    return r.due;
                case 13:
                    if (day + 7 < r.due) {
                        r.due = day + 7;
                    }
                    return r.due;
                case 14:
                    r.charge = r.price + (day > r.due ? 10 * (day - r.due) : 0);
                    balance[lib] += r.charge;
                    copies.get(r.copy)[2] = copies.get(r.copy)[0];
                    return r.charge;
                default:
                    return 0;
            }
        }

        boolean pass(int n) {
            if (n >= 1 && n <= 1000) {
                day += n;
                return true;
            }
            return false;
        }

        int resend(int lib, int loan) {
            MLoan l = loan(loan);
            refuseUnless(l != null && (lib == l.requester || l.suppliers.containsKey(lib)), "IllegalArgumentException");
            int to = lib == l.requester ? l.present() : l.requester;
            End end = l.end(lib, to);
            int count = 1;
            for (Note n : end.sent) {
                if (n.number > end.acked) {
                    post(n.again(end.seen));
                    count++;
                }
            }
            write(l, lib, to, "BARE", 0);
            return count;
        }

        int carry(int i) {
            if (i < 0 || i >= row.size()) {
                return -1;
            }
            Note n = row.get(i);
            MLoan l = loans.get(n.loan);
            End goal = l.end(n.to, n.from);
            goal.acked = Math.max(goal.acked, n.seen);
            if (n.number > goal.seen) {
                goal.held.put(n.number, n);
            }
            int taken = 0;
            while (goal.held.containsKey(goal.seen + 1)) {
                goal.seen++;
                taken++;
                take(l, n.from, n.to, goal.held.remove(goal.seen));
            }
            return taken;
        }

        void take(MLoan l, int from, int to, Note n) {
            boolean byRequester = to == l.requester;
            if (byRequester && from != l.present()) {
                return;
            }
            Record r = byRequester ? l.own : l.suppliers.get(to);
            for (String line : byRequester ? TAKEN_BY_REQUESTER : TAKEN_BY_SUPPLIER) {
                String[] rule = line.split(": ");
                if (KINDS.indexOf(rule[0]) == n.kind && Arrays.asList(rule[1].split(", ")).contains(r.state)) {
                    played.add((byRequester ? "requester" : "supplier") + " takes " + rule[0] + " in " + r.state);
                    if (rule[2].equals("NEXT")) {
                        next(l);
                    } else {
                        r.state = rule[2];
                        takenEffect(l, r, rule[0], from, to, n.told);
                    }
                    return;
                }
            }
        }

        void takenEffect(MLoan l, Record r, String kind, int from, int to, int told) {
            boolean byRequester = to == l.requester;
            if (kind.equals("CANCEL")) {
                write(l, to, from, "CANCELLED", 0);
            } else if (kind.equals("LOST")) {
                balance[to] += 4000;
            } else if (kind.equals("CONDITION")) {
                r.price = told;
            } else if (kind.equals("SHIPPED") || kind.equals("RECALL") || kind.equals("RENEWED") && told != 0) {
                r.due = told;
            } else if (kind.equals("CHECKED") && byRequester) {
                r.charge = told;
                balance[to] -= told;
            }
        }

        boolean drop(int i) {
            if (i < 0 || i >= row.size()) {
                return false;
            }
            row.remove(i);
            return true;
        }

        int letter(int i, int what) {
            return i >= 0 && i < row.size() ? row.get(i).field(what) : -1;
        }

        int book(int lib, int loan, int what) {
            MLoan l = loan(loan);
            if (l == null || lib != l.requester && !l.suppliers.containsKey(lib) || what < 0 || what > 7) {
                return -1;
            }
            boolean requester = lib == l.requester;
            Record r = requester ? l.own : l.suppliers.get(lib);
            End end = l.end(lib, requester ? l.present() : l.requester);
            List<String> has = requester ? List.of("HERE", "RENEWING", "RECALLED") : List.of("PROMISED");
            int state = (requester ? ASKER : LENDER).indexOf(r.state);
            int[] all = {state, r.due, r.price, r.charge, end.sent.size(), end.seen, end.acked,
                has.contains(r.state) ? 1 : 0};
            return all[what];
        }

        int supplier(int loan) {
            return loan(loan) == null ? -1 : loan(loan).present();
        }

        int holder(int copy) {
            return copy >= 0 && copy < copies.size() ? copies.get(copy)[2] : -1;
        }

        int promised(int copy) {
            return copy >= 0 && copy < copies.size() ? promisedFor(copy) : -1;
        }

        int balance(int lib) {
            return lib >= 0 && lib < 6 ? balance[lib] : 0;
        }

        int queue(int lib, int title) {
            if (lib < 0 || lib > 5 || title < 0 || title > 7) {
                return -1;
            }
            int n = 0;
            for (MLoan l : loans) {
                if (l.title == title && l.suppliers.containsKey(lib) && l.suppliers.get(lib).state.equals("ASKED")) {
                    n++;
                }
            }
            return n;
        }

        boolean settled(int loan) {
            MLoan l = loan(loan);
            if (l == null) {
                return false;
            }
            End a = l.end(l.requester, l.present());
            End b = l.end(l.present(), l.requester);
            return a.seen == b.sent.size() && b.seen == a.sent.size() && a.acked == b.seen && b.acked == a.seen;
        }
    }

    private static void refuseUnless(boolean allowed, String name) {
        if (!allowed) {
            throw new Refused(name);
        }
    }

    // ---- runs as they are played on the model ----

    private record Call(String name, int[] args, String want) {
    }

    private static final class Script {
        final Model m = new Model();
        final List<Call> calls = new ArrayList<>();

        void call(String name, int... args) {
            calls.add(new Call(name, args, onModel(m, name, args)));
        }
    }

    private static String onModel(Model m, String call, int[] a) {
        try {
            switch (call) {
                case "addCopy": return "" + m.addCopy(a[0], a[1]);
                case "request": return "" + m.request(a[0], a[1], a[2], a[3]);
                case "act": return "" + m.act(a[0], a[1], a[2], a[3]);
                case "pass": return "" + m.pass(a[0]);
                case "resend": return "" + m.resend(a[0], a[1]);
                case "letters": return "" + m.row.size();
                case "carry": return "" + m.carry(a[0]);
                case "drop": return "" + m.drop(a[0]);
                case "letter": return "" + m.letter(a[0], a[1]);
                case "book": return "" + m.book(a[0], a[1], a[2]);
                case "supplier": return "" + m.supplier(a[0]);
                case "holder": return "" + m.holder(a[0]);
                case "promised": return "" + m.promised(a[0]);
                case "balance": return "" + m.balance(a[0]);
                case "queue": return "" + m.queue(a[0], a[1]);
                default: return "" + m.settled(a[0]);
            }
        } catch (Refused e) {
            return "throws." + e.name;
        }
    }

    private static String onClass(LoanLetters x, String call, int[] a) {
        try {
            switch (call) {
                case "addCopy": return "" + x.addCopy(a[0], a[1]);
                case "request": return "" + x.request(a[0], a[1], a[2], a[3]);
                case "act": return "" + x.act(a[0], a[1], a[2], a[3]);
                case "pass": return "" + x.pass(a[0]);
                case "resend": return "" + x.resend(a[0], a[1]);
                case "letters": return "" + x.letters();
                case "carry": return "" + x.carry(a[0]);
                case "drop": return "" + x.drop(a[0]);
                case "letter": return "" + x.letter(a[0], a[1]);
                case "book": return "" + x.book(a[0], a[1], a[2]);
                case "supplier": return "" + x.supplier(a[0]);
                case "holder": return "" + x.holder(a[0]);
                case "promised": return "" + x.promised(a[0]);
                case "balance": return "" + x.balance(a[0]);
                case "queue": return "" + x.queue(a[0], a[1]);
                default: return "" + x.settled(a[0]);
            }
        } catch (RuntimeException e) {
            return "throws." + e.getClass().getSimpleName();
        }
    }

    /** The calls of the run on new objects, each time with as many of the looks behind it as one may be asked. */
    private static void playOnClass(int run, List<Call> calls, List<Call> looks) {
        int most = MOST_CALLS - calls.size();
        for (int from = 0; from < looks.size() && wrong == 0; from += most) {
            LoanLetters x = new LoanLetters();
            for (Call call : calls) {
                compare(run, x, call);
            }
            for (Call look : looks.subList(from, Math.min(from + most, looks.size()))) {
                compare(run, x, look);
            }
        }
    }

    private static void compare(int run, LoanLetters x, Call call) {
        String got = onClass(x, call.name, call.args);
        if (!got.equals(call.want)) {
            wrong++;
            if (wrong <= 20) {
                System.out.println("run " + run + ": " + call.name + Arrays.toString(call.args) + " answered " + got
                        + ", due is " + call.want);
            }
        }
    }

    // ---- the runs ----

    private static int oneOf(Random dice, int... choices) {
        return choices[dice.nextInt(choices.length)];
    }

    /** Mostly 0 .. n - 1, sometimes just beside, seldom far off. */
    private static int near(Random dice, int n) {
        int roll = dice.nextInt(60);
        if (roll == 0) {
            return oneOf(dice, -1, n, n + 1, Integer.MIN_VALUE, Integer.MAX_VALUE, 1 << 29);
        }
        return dice.nextInt(Math.max(1, n));
    }

    private static void anyCall(Random dice, Script s, int mostLoans) {
        Model m = s.m;
        int loans = m.loans.size();
        int roll = dice.nextInt(100);
        if (roll < 3) {
            s.call("addCopy", near(dice, 6), near(dice, 2));
        } else if (roll < 8 && (loans < mostLoans || dice.nextInt(10) == 0)) {
            s.call("request", near(dice, 6), near(dice, 2), near(dice, 6), 1 + near(dice, 99));
        } else if (roll < 45) {
            anyStep(dice, s);
        } else if (roll < 49) {
            s.call("pass", dice.nextInt(8) == 0 ? oneOf(dice, -1, 0, 1, 1000, 1001) : 1 + dice.nextInt(12));
        } else if (roll < 53) {
            s.call("resend", near(dice, 6), near(dice, loans));
        } else if (roll < 84) {
            int last = m.row.size() - 1 - dice.nextInt(6);
            s.call("carry", dice.nextInt(3) == 0 ? near(dice, m.row.size()) : last);
        } else if (roll < 88) {
            s.call("drop", near(dice, m.row.size()));
        } else {
            anyQuestion(dice, s);
        }
    }

    /** Of some loan a step that can be done, if there is one: a blind choice would seldom get far. */
    private static void anyStep(Random dice, Script s) {
        Model m = s.m;
        int loan = near(dice, m.loans.size());
        MLoan l = m.loan(loan);
        int first = dice.nextInt(15);
        for (int k = 0; l != null && k < 15 && dice.nextInt(20) != 0; k++) {
            int step = (first + k) % 15;
            int lib = step <= 6 ? l.requester : l.asked.get(dice.nextInt(l.asked.size()));
            Record r = step <= 6 ? l.own : l.suppliers.get(lib);
            boolean rare = (step == 2 || step == 6 || step == 9) && dice.nextInt(3) != 0;
            if (!rare && Arrays.asList(STEPS[step].split(": ")[0].split(", ")).contains(r.state)) {
                s.call("act", lib, loan, step, step == 7 ? copyFor(dice, m, l, lib) : price(dice));
                return;
            }
        }
        s.call("act", near(dice, 6), loan, near(dice, 15), near(dice, 32));
    }

    private static int copyFor(Random dice, Model m, MLoan l, int lib) {
        int first = dice.nextInt(32);
        for (int k = 0; k < 32 && dice.nextInt(40) != 0; k++) {
            int c = (first + k) % 32;
            if (c < m.copies.size() && m.copies.get(c)[0] == lib && m.copies.get(c)[1] == l.title) {
                return c;
            }
        }
        return near(dice, 32);
    }

    private static int price(Random dice) {
        return dice.nextInt(3) == 0 ? oneOf(dice, -1, 0, 1, 1000, 1001) : 1 + dice.nextInt(1000);
    }

    private static void anyQuestion(Random dice, Script s) {
        Model m = s.m;
        int loan = near(dice, m.loans.size());
        int copy = near(dice, m.copies.size());
        int lib = near(dice, 6);
        switch (dice.nextInt(9)) {
            case 0: s.call("letters"); break;
            case 1: s.call("letter", near(dice, m.row.size()), near(dice, 7)); break;
            case 2: s.call("book", lib, loan, near(dice, 8)); break;
            case 3: s.call("supplier", loan); break;
            case 4: s.call("holder", copy); break;
            case 5: s.call("promised", copy); break;
            case 6: s.call("balance", lib); break;
            case 7: s.call("queue", lib, near(dice, 8)); break;
            default: s.call("settled", loan); break;
        }
    }

    private static void lookAtAll(Script s) {
        Model m = s.m;
        s.call("letters");
        for (int i = -1; i <= m.row.size(); i++) {
            for (int what = -1; what <= 7; what++) {
                s.call("letter", i, what);
            }
        }
        for (int loan = -1; loan <= m.loans.size(); loan++) {
            s.call("supplier", loan);
            s.call("settled", loan);
            for (int lib = -1; lib <= 6; lib++) {
                for (int what = -1; what <= 8; what++) {
                    s.call("book", lib, loan, what);
                }
            }
        }
        for (int copy = -1; copy <= m.copies.size(); copy++) {
            s.call("holder", copy);
            s.call("promised", copy);
        }
        for (int lib = -1; lib <= 6; lib++) {
            s.call("balance", lib);
            for (int title = -1; title <= 8; title++) {
                s.call("queue", lib, title);
            }
        }
    }

    private static void play(int run) {
        Random dice = new Random(run);
        Script s = new Script();
        int mostLoans = oneOf(dice, 1, 2, 4, 32);
        for (int lib = 0; lib < 6 && run % 4 != 0; lib++) {
            s.call("addCopy", lib, dice.nextInt(2));
        }
        int length = 6 + dice.nextInt(MOST_CALLS - FEWEST_LOOKS - 5);
        while (s.calls.size() < length) {
            anyCall(dice, s, mostLoans);
        }
        lookAtAll(s);
        playOnClass(run, s.calls.subList(0, length), s.calls.subList(length, s.calls.size()));
    }

    private static void lookForUnplayed() {
        for (int step = 0; step < STEPS.length; step++) {
            for (String state : STEPS[step].split(": ")[0].split(", ")) {
                mustBePlayed("step " + step + " in " + state);
            }
        }
        for (String line : TAKEN_BY_REQUESTER) {
            for (String state : line.split(": ")[1].split(", ")) {
                mustBePlayed("requester takes " + line.split(": ")[0] + " in " + state);
            }
        }
        for (String line : TAKEN_BY_SUPPLIER) {
            for (String state : line.split(": ")[1].split(", ")) {
                mustBePlayed("supplier takes " + line.split(": ")[0] + " in " + state);
            }
        }
    }

    private static void mustBePlayed(String what) {
        if (!played.contains(what)) {
            wrong++;
            System.out.println("never played: " + what);
        }
    }

    public static void main(String[] args) {
        for (int run = 1; run <= RUNS && wrong == 0; run++) {
            play(run);
        }
        if (wrong == 0) {
            lookForUnplayed();
        }
        System.out.println(wrong == 0 ? "all answers are as due" : wrong + " answers are not as due");
        if (wrong != 0) {
            System.exit(1);
        }
    }
}
