import java.util.ArrayList;
import java.util.Arrays;
import java.util.HashSet;
import java.util.List;
import java.util.Set;

/**
 * One loan, and every order of steps and carried letters that it can have up to some number of calls: letters late,
 * lost (never carried), doubled (carried again) and crossing; no day passes, and nothing is sent again before the
 * end. Looked at after each call: never do both sides think that they have the volume, the books tell where it is,
 * and sides that have settled agree.
 */
public final class EveryOrder extends Stages {
    private static final int REQUESTER = 0, FIRST = 1, SECOND = 2;
    private static final int MOST_CALLS = 22;
    private static final int CARRY = STEPS;
    /** States of a supplier. */
    private static final int PROMISED = 3, SHIPPED = 4, RETURNING = 8, LOST = 12;

    /** States of the requester and of its present supplier in which the two can have settled. */
    private static final Set<List<Integer>> AGREED = Set.of(List.of(0, 1), List.of(1, 2), List.of(2, 3),
        List.of(3, 4), List.of(4, 5), List.of(5, 6), List.of(6, 7), List.of(7, 8), List.of(8, 9), List.of(11, 10),
        List.of(11, 11), List.of(12, 12));

    /** A step (or CARRY) of a library (or of a letter of the row). */
    private record Event(int step, int of) {
        boolean isDoneOn(LoanLetters x) {
            if (step == CARRY) {
                return x.carry(of) != NONE;
            }
            int arg = step == CONDITION ? 40 : copyOf(of);
            return answer(() -> x.act(of, 0, step, arg)) >= 0;
        }
    }

    private static int copyOf(int supplier) {
        return supplier - FIRST;
    }

    /** Library 0 asks 1, then 2, which have a copy each; a 3rd one that is asked never answers. */
    private static LoanLetters begun() {
        LoanLetters x = new LoanLetters();
        x.addCopy(FIRST, 0);
        x.addCopy(SECOND, 0);
        x.request(REQUESTER, 0, FIRST, 10);
        return x;
    }

    private static LoanLetters after(Event[] run) {
        LoanLetters x = begun();
        for (Event event : run) {
            event.isDoneOn(x);
        }
        return x;
    }

    /** Each run but for those that lead to an object which behaves like one that was looked at before. */
    private static void everyOrder() {
        Set<String> known = new HashSet<>();
        Set<List<Integer>> settled = new HashSet<>();
        List<Event[]> last = new ArrayList<>();
        last.add(new Event[0]);
        for (int calls = 0; calls < MOST_CALLS; calls++) {
            List<Event[]> longer = new ArrayList<>();
            for (Event[] run : last) {
                for (Event event : eventsAfter(run)) {
                    addIfNew(longer, known, run, event);
                }
            }
            for (Event[] run : longer) {
                look(run);
                settled.add(settle(run));
            }
            last = longer;
        }
        part("promise 17");
        due("every pair of states in which they can settle was seen", settled.equals(AGREED), true);
    }

    private static List<Event> eventsAfter(Event[] run) {
        List<Event> events = new ArrayList<>();
        for (int step = 0; step < STEPS; step++) {
            for (int lib : step <= LOSE ? new int[] {REQUESTER} : new int[] {FIRST, SECOND}) {
                events.add(new Event(step, lib));
            }
        }
        int waiting = after(run).letters();
        for (int i = 0; i < waiting; i++) {
            events.add(new Event(CARRY, i));
        }
        return events;
    }

    private static void addIfNew(List<Event[]> runs, Set<String> known, Event[] run, Event event) {
        LoanLetters x = after(run);
        if (event.isDoneOn(x)) {
            Event[] longer = Arrays.copyOf(run, run.length + 1);
            longer[run.length] = event;
            if (known.add(fingerprint(x, longer))) {
                runs.add(longer);
            }
        }
    }

    /** What each has written, the letters, and which of them were carried: all that later answers hang on. */
    private static String fingerprint(LoanLetters x, Event[] run) {
        StringBuilder text = new StringBuilder();
        for (int lib = REQUESTER; lib <= SECOND; lib++) {
            for (int what = 0; what < ENTRIES; what++) {
                text.append(x.book(lib, 0, what)).append(' ');
            }
        }
        boolean[] carried = new boolean[x.letters()];
        for (Event event : run) {
            if (event.step == CARRY) {
                carried[event.of] = true;
            }
        }
        for (int i = 0; i < carried.length; i++) {
            text.append(carried[i] ? '+' : '-');
            for (int what = 1; what <= 6; what++) {
                text.append(x.letter(i, what)).append(' ');
            }
        }
        return text.toString();
    }

    private static void look(Event[] run) {
        part("promise 11, after " + Arrays.toString(run));
        LoanLetters x = after(run);
        int requesterHas = x.book(REQUESTER, 0, HAS);
        int have = requesterHas;
        int atRequester = 0;
        for (int lib = FIRST; lib <= SECOND; lib++) {
            int copy = copyOf(lib);
            int state = x.book(lib, 0, STATE);
            atRequester += x.holder(copy) == REQUESTER ? 1 : 0;
            have += Math.max(0, x.book(lib, 0, HAS));
            boolean isAway = state >= SHIPPED && state <= RETURNING || state == LOST;
            due(named("holder", copy) + " is its home", x.holder(copy) == lib, !isAway);
            due(named("promised", copy), x.promised(copy), state >= PROMISED && state <= RETURNING ? 0 : NONE);
        }
        due("both think that they have the volume", have > 1, false);
        due("the requester has what it thinks to have", atRequester, requesterHas);
    }

    /** Whatever came late or not at all: when both have sent again what is unknown, they agree. */
    private static List<Integer> settle(Event[] run) {
        part("promises 6 and 17, after " + Arrays.toString(run));
        LoanLetters x = after(run);
        for (int round = 0; round < 3; round++) {
            sendAgainAndCarry(x, REQUESTER);
            sendAgainAndCarry(x, x.supplier(0));
        }
        due("settled(0)", x.settled(0), true);
        due("the balances together", x.balance(REQUESTER) + x.balance(FIRST) + x.balance(SECOND), 0);
        List<Integer> states = List.of(x.book(REQUESTER, 0, STATE), x.book(x.supplier(0), 0, STATE));
        due("they agree in " + states, AGREED.contains(states), true);
        return states;
    }

    private static void sendAgainAndCarry(LoanLetters x, int lib) {
        int first = x.letters();
        x.resend(lib, 0);
        int behind = x.letters();
        for (int i = first; i < behind; i++) {
            x.carry(i);
        }
    }

    public static void main(String[] args) {
        runTestsOf(EveryOrder.class);
    }
}
