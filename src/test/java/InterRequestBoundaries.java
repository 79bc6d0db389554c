import java.lang.annotation.Retention;
import java.lang.annotation.RetentionPolicy;
import java.lang.reflect.Field;
import java.lang.reflect.InvocationTargetException;
import java.lang.reflect.Method;
import java.util.Arrays;
import java.util.Comparator;
import java.util.NoSuchElementException;
import java.util.TreeSet;
import java.util.function.IntSupplier;
import java.util.function.ToIntFunction;

/**
 * The document, sentence by sentence: every boundary case that a sentence names has a test of its
 * own. Each test bears the sentence that it is of (the constants WHAT_.., TERMS_.. and P..S..:
 * promise and sentence), and it is an error if a sentence of that list is left without a test.
 * Sentences are counted from the section's beginning, behind the signature.
 */
public final class InterRequestBoundaries {
    @Retention(RetentionPolicy.RUNTIME)
    private @interface Of {
        String value();
    }

    private static final String WHAT_1 = "What it is, sentence 1 (promises 5, 7, 8, 12, 13): both sides keep their own states.";
    private static final String WHAT_2 = "What it is, sentence 2 (promises 1 to 15): An object is used for at most 512 calls after it has been made; what later calls answer is free.";

    private static final String TERMS_1 = "Terms, sentence 1 (promises 1, 2, 3, 5, 14): HOUSES are 0 .. 29.";
    private static final String TERMS_2 = "Terms, sentence 2 (promises 2, 3, 4): REQUESTS, 0 .. 99, are of a house (the REQUESTER) with a STRING of 1 to 8 LENDERS, other houses, in order, none twice.";
    private static final String TERMS_3 = "Terms, sentence 3 (promises 4 to 10): Times are 0 .. 1000000000 and never go back (a time below the greatest one that a call told which was not refused, is out of range; what answers WRONG, DOUBLE or STATE is refused, too).";
    private static final String TERMS_4 = "Terms, sentence 4 (promises 4 to 10, 12): THE REQUESTER'S STATES: 0 NEW, 1 ASKED (a lender holds it), 2 CONDITIONAL (that lender has a condition), 3 SHIPPED (it is on its way), 4 RECEIVED, 5 RETURNED, 6 DONE, 7 UNFILLED (no lender is left), 8 CANCELLED.";
    private static final String TERMS_5 = "Terms, sentence 5 (promise 13): THE LENDER'S (each lender of the string has one): 0 none yet, 1 IN PROCESS, 2 CONDITIONAL, 3 WILL SUPPLY, 4 SHIPPED, 5 DONE, 6 NOT SUPPLIED, 7 PASSED (its time was over), 8 CANCELLED.";
    private static final String TERMS_6 = "Terms, sentence 6 (promises 4, 5, 6, 10): To ASK is to go to the next lender of the string that has state 0: it is IN PROCESS from now on, the request ASKED; where there is none it is UNFILLED.";
    private static final String TERMS_7 = "Terms, sentence 7 (promise 5): MESSAGES of the lender that holds the request (IN PROCESS, CONDITIONAL, WILL SUPPLY or SHIPPED), each with a NUMBER of that lender, 0 .. 1000: a number not above the greatest that was taken from this lender for this request is a DOUBLE: nothing happens but that it is counted.";
    private static final String TERMS_8 = "Terms, sentence 8 (promise 5): KINDS: 1 WILL SUPPLY (of IN PROCESS), 2 NOT SUPPLIED (of IN PROCESS, WILL SUPPLY: then the next one is ASKED), 3 CONDITION (of IN PROCESS: both are CONDITIONAL), 4 SHIP (of IN PROCESS, WILL SUPPLY: both are SHIPPED, with a due time), 5 CHECKED IN (of SHIPPED, once the requester has RETURNED: both DONE).";
    private static final String TERMS_9 = "Terms, sentence 9 (promise 6): The requester answers a condition: yes: the lender is IN PROCESS, the request ASKED; no: the lender is NOT SUPPLIED, the next one is ASKED.";
    private static final String TERMS_10 = "Terms, sentence 10 (promises 10, 11): TIME OUT: a lender that has been IN PROCESS or WILL SUPPLY, without a message that was taken, for more than SPAN seconds (86400 at first) is PASSED, and the next one is ASKED.";
    private static final String TERMS_11 = "Terms, sentence 11 (promise 9): A request may be CANCELLED while it is NEW, ASKED or CONDITIONAL: the lender that holds it is CANCELLED, too.";
    private static final String TERMS_12 = "Terms, sentence 12 (promise 9): One that is SHIPPED can't be.";
    private static final String TERMS_13 = "Terms, sentences 13 to 18 (promises 2 to 11, 14), the constants: NONE = -1, RANGE = -2, STATE = -3, FULL = -4, WRONG = -5, DOUBLE = -6.";

    private static final String P01S1 = "Promise 1, sentence 1: Houses 1 .. 30 (what is less or more is the nearest); no requests.";
    private static final String P02S1 = "Promise 2, sentence 1: A request more, NEW, with no lenders: its number.";
    private static final String P02S2 = "Promise 2, sentence 2: NONE if there is no such house; RANGE if the item is not 0 .. 100000; FULL.";
    private static final String P03S1 = "Promise 3, sentence 1: A lender at the end of a NEW request's string: how many it has.";
    private static final String P03S2 = "Promise 3, sentence 2: NONE; STATE if it is not NEW, the house is the requester, or in it already; FULL if it has 8.";
    private static final String P04S1 = "Promise 4, sentence 1: A NEW request is ASKED: the lender; 100 if there is none (UNFILLED).";
    private static final String P04S2 = "Promise 4, sentence 2: NONE, RANGE, STATE.";
    private static final String P05S1 = "Promise 5, sentence 1: A message of a house, of a kind 1 .. 5, with a value (of SHIP: the due time, behind t; else it does not matter): the requester's state.";
    private static final String P05S2 = "Promise 5, sentence 2: NONE; RANGE; WRONG; DOUBLE; STATE.";
    private static final String P05S3 = "Promise 5, sentence 3: (A number counts as taken only if the message was.)";
    private static final String P06S1 = "Promise 6, sentence 1: A condition is answered: the requester's state.";
    private static final String P06S2 = "Promise 6, sentence 2: NONE, RANGE; STATE if it is not CONDITIONAL.";
    private static final String P07S1 = "Promise 7, sentence 1: The item came: the requester's state; it is RECEIVED.";
    private static final String P07S2 = "Promise 7, sentence 2: NONE, RANGE; STATE if it is not SHIPPED.";
    private static final String P08S1 = "Promise 8, sentence 1: The item goes back: 1, or 0 if it is behind its due time.";
    private static final String P08S2 = "Promise 8, sentence 2: NONE, RANGE; STATE if it is not RECEIVED.";
    private static final String P09S1 = "Promise 9, sentence 1: CANCELLED: 1.";
    private static final String P09S2 = "Promise 9, sentence 2: NONE, RANGE, STATE.";
    private static final String P10S1 = "Promise 10, sentence 1: TIME OUT is looked for, of all requests by their numbers, once each: how many lenders are PASSED.";
    private static final String P10S2 = "Promise 10, sentence 2: RANGE.";
    private static final String P11S1 = "Promise 11, sentence 1: How long a lender may wait, 1 .. 10000000 seconds: 1.";
    private static final String P11S2 = "Promise 11, sentence 2: RANGE.";
    private static final String P12S1 = "Promise 12, sentence 1: Of a request, what 0: the requester's state, 1: who holds it (asked, with a condition, or whoever shipped it), or -1, 2: how many lenders, 3: the item, 4: the house, 5: doubles, 6: its due time, or -1, 7: when it was first ASKED, or -1, 8: when it came to be DONE, UNFILLED or CANCELLED, or -1.";
    private static final String P12S2 = "Promise 12, sentence 2: NoSuchElementException if there is none such, or for another what.";
    private static final String P13S1 = "Promise 13, sentence 1: Of the i-th lender of a request's string, what 0: the house, 1: its state, 2: the greatest number that was taken, or -1; NoSuchElementException if there is none such, or for another what.";
    private static final String P14S1 = "Promise 14, sentence 1: Of a house, which 0: requests that it asked, 1: of these DONE, 2: UNFILLED, 3: as a lender: SHIPPED ones (DONE ones, too), 4: NOT SUPPLIED, 5: PASSED; NONE for none such.";
    private static final String P15S1 = "Promise 15, sentence 1: The i-th request, by numbers, from 0 on, that is RECEIVED at a time behind its due time (the time may lie back); NoSuchElementException if there is none such.";

    private static final int NONE = -1;
    private static final int RANGE = -2;
    private static final int STATE = -3;
    private static final int FULL = -4;
    private static final int WRONG = -5;
    private static final int DOUBLE = -6;
    private static final int MIN = Integer.MIN_VALUE;
    private static final int MAX = Integer.MAX_VALUE;
    private static final int LAST_TIME = 1000000000;
    private static final int DAY = 86400;

    private static final int NEW = 0;
    private static final int ASKED = 1;
    private static final int CONDITIONAL = 2;
    private static final int SHIPPED = 3;
    private static final int RECEIVED = 4;
    private static final int RETURNED = 5;
    private static final int DONE = 6;
    private static final int UNFILLED = 7;
    private static final int CANCELLED = 8;
    /** Not a state of its own: ASKED, and the lender WILL SUPPLY. */
    private static final int ASKED_WILL_SUPPLY = 9;

    /** The times of send, first message, received, back and check in, and the due time of all. */
    private static final int[] USUAL = {10, 20, 30, 40, 45};
    private static final int[] ALL_AT_0 = {0, 0, 0, 0, 0};
    private static final int DUE = 50;
    /** The latest time that inState(state) told. */
    private static final int[] TOLD = {0, 10, 20, 20, 30, 40, 45, 20, 20, 20};

    private static final int[] NO_REQUESTS = {-1, 1, 99, 100, MIN, MAX};
    private static final int[] NO_TIMES = {-1, MIN, LAST_TIME + 1, MAX};

    private static String running = "";
    private static int wrong = 0;

    // ---- How tests are told and run

    private static void fault(String text) {
        wrong++;
        System.out.println(running + ": " + text);
    }

    private static void due(String what, int got, int want) {
        if (got != want) {
            fault(what + " answered " + got + ", due is " + want);
        }
    }

    private static void dueNoSuch(String what, IntSupplier call) {
        try {
            fault(what + " answered " + call.getAsInt() + ", due is NoSuchElementException");
        } catch (NoSuchElementException e) {
            // as due
        }
    }

    /** A call on an object in a state is refused: it answers why, changes nothing and tells no time. */
    private static void refused(String what, int state, int want, ToIntFunction<InterRequest> call) {
        InterRequest x = inState(state);
        String before = picture(x);
        due(what + " in state " + state, call.applyAsInt(x), want);
        String after = picture(x);
        if (!after.equals(before)) {
            fault(what + " in state " + state + " made " + after + " of " + before);
        }
        due(what + " in state " + state + ": a waits at the time before", x.waits(TOLD[state]), 0);
    }

    /** All that about and told tell of all requests. */
    private static String picture(InterRequest x) {
        StringBuilder all = new StringBuilder();
        for (int r = 0; r < 100 && isThere(x, r); r++) {
            all.append('[');
            for (int what = 0; what <= 8; what++) {
                all.append(x.about(r, what)).append(' ');
            }
            int lenders = x.about(r, 2);
            for (int i = 0; i < lenders; i++) {
                all.append('(');
                for (int what = 0; what <= 2; what++) {
                    all.append(x.told(r, i, what)).append(' ');
                }
                all.append(')');
            }
            all.append(']');
        }
        return all.toString();
    }

    private static boolean isThere(InterRequest x, int request) {
        try {
            x.about(request, 0);
            return true;
        } catch (NoSuchElementException e) {
            return false;
        }
    }

    /** Five houses; request 0 of house 0 with the lenders 1, 2, 3, brought to a state by house 1. */
    private static InterRequest inState(int state) {
        return inState(state, USUAL);
    }

    private static InterRequest inState(int state, int[] times) {
        InterRequest x = withString(5, 1, 2, 3);
        if (state == NEW) {
            return x;
        }
        x.send(0, times[0]);
        switch (state) {
            case ASKED:
                break;
            case CONDITIONAL:
                x.message(0, 1, 4, 3, 0, times[1]);
                break;
            case UNFILLED:
                x.message(0, 1, 4, 2, 0, times[1]);
                x.message(0, 2, 4, 2, 0, times[1]);
                x.message(0, 3, 4, 2, 0, times[1]);
                break;
            case CANCELLED:
                x.cancel(0, times[1]);
                break;
            case ASKED_WILL_SUPPLY:
                x.message(0, 1, 4, 1, 0, times[1]);
                break;
            default:
                bringHome(x, state, times);
                break;
        }
        return x;
    }

    private static void bringHome(InterRequest x, int state, int[] times) {
        x.message(0, 1, 4, 4, DUE, times[1]);
        if (state >= RECEIVED) {
            x.received(0, times[2]);
        }
        if (state >= RETURNED) {
            x.back(0, times[3]);
        }
        if (state >= DONE) {
            x.message(0, 1, 5, 5, 0, times[4]);
        }
    }

    /** Request 0 of house 0, NEW, with these lenders. */
    private static InterRequest withString(int houses, int... lenders) {
        InterRequest x = new InterRequest(houses);
        x.ask(0, 7);
        for (int house : lenders) {
            x.lender(0, house);
        }
        return x;
    }

    private static final String[] TIMED = {"send", "message", "condition", "received", "back", "cancel", "waits"};
    private static final int[] TAKEN_IN = {NEW, ASKED, CONDITIONAL, SHIPPED, RECEIVED, ASKED, UNFILLED};
    private static final int[] TAKEN_ANSWER = {1, ASKED, ASKED, RECEIVED, 1, 1, 0};

    /** The calls that tell a time, each of which is taken in its state of TAKEN_IN. */
    private static int timed(int which, InterRequest x, int t) {
        switch (which) {
            case 0: return x.send(0, t);
            case 1: return x.message(0, 1, 9, 1, 0, t);
            case 2: return x.condition(0, true, t);
            case 3: return x.received(0, t);
            case 4: return x.back(0, t);
            case 5: return x.cancel(0, t);
            default: return x.waits(t);
        }
    }

    /** The calls of a request, each of which is taken in its state of TAKEN_IN if its number is 0. */
    private static int ofRequest(int which, InterRequest x, int request, int t) {
        switch (which) {
            case 0: return x.send(request, t);
            case 1: return x.message(request, 1, 9, 1, 0, t);
            case 2: return x.condition(request, true, t);
            case 3: return x.received(request, t);
            case 4: return x.back(request, t);
            default: return x.cancel(request, t);
        }
    }

    /** NONE of one call of a request, also where its time can't be. */
    private static void noSuchRequest(int which) {
        for (int bad : NO_REQUESTS) {
            refused(TIMED[which] + " of request " + bad, TAKEN_IN[which], NONE, x -> ofRequest(which, x, bad, 60));
            refused(TIMED[which] + " of request " + bad + " at -1", TAKEN_IN[which], NONE, x -> ofRequest(which, x, bad, -1));
        }
    }

    /** RANGE of one call that tells a time: too small, too large, and one below the latest. */
    private static void noSuchTime(int which) {
        int state = TAKEN_IN[which];
        for (int bad : NO_TIMES) {
            refused(TIMED[which] + " at " + bad, state, RANGE, x -> timed(which, x, bad));
        }
        if (TOLD[state] > 0) {
            refused(TIMED[which] + " one second back", state, RANGE, x -> timed(which, x, TOLD[state] - 1));
            refused(TIMED[which] + " at 0", state, RANGE, x -> timed(which, x, 0));
        }
    }

    /** STATE of one call in every state but those; RANGE comes first where the time can't be, too. */
    private static void onlyInStates(int which, int... states) {
        for (int state = NEW; state <= CANCELLED; state++) {
            int here = state;
            if (Arrays.stream(states).noneMatch(s -> s == here)) {
                refused(TIMED[which], state, STATE, x -> timed(which, x, 60));
                refused(TIMED[which] + " at no time", state, RANGE, x -> timed(which, x, LAST_TIME + 1));
            }
        }
    }

    // ---- What it is

    @Of(WHAT_1)
    private static void theLenderStaysShippedWhileTheRequesterGoesOn() {
        for (int state = SHIPPED; state <= RETURNED; state++) {
            due("the requester's", inState(state).about(0, 0), state);
            due("the lender's, where the requester's is " + state, inState(state).told(0, 0, 1), 4);
        }
    }

    @Of(WHAT_1)
    private static void theRequesterStaysAskedWhileTheLenderGoesOn() {
        due("the requester's", inState(ASKED_WILL_SUPPLY).about(0, 0), ASKED);
        due("the lender's", inState(ASKED_WILL_SUPPLY).told(0, 0, 1), 3);
    }

    @Of(WHAT_2)
    private static void the512thCallIsStillAnswered() {
        InterRequest x = new InterRequest(30);
        int calls = 0;
        for (int r = 0; r < 100; r++, calls++) {
            due("ask", x.ask(0, r), r);
        }
        for (int k = 0; k < 320; k++, calls++) {
            due("lender", x.lender(k / 8, 1 + k % 8), 1 + k % 8);
        }
        for (int r = 0; r < 91; r++, calls++) {
            due("send", x.send(r, r), r < 40 ? 1 : 100);
        }
        due("calls so far", calls, 511);
        due("the 512th call", x.waits(DAY + 1), 1);
    }

    @Of(WHAT_2)
    private static void doublesAreCountedUpToThe512thCall() {
        InterRequest x = withString(2, 1);
        x.send(0, 0);
        x.message(0, 1, 1000, 1, 0, 0);
        for (int call = 5; call < 512; call++) {
            due("call " + call, x.message(0, 1, call, 1, 0, 0), DOUBLE);
        }
        due("doubles, by the 512th call", x.about(0, 5), 507);
    }

    // ---- Terms 1: houses

    @Of(TERMS_1)
    private static void house29IsTheLastThatMayBe() {
        InterRequest x = new InterRequest(30);
        due("ask of house 29", x.ask(29, 0), 0);
        due("ask of house 0", x.ask(0, 0), 1);
        due("house 29 as a lender", x.lender(1, 29), 1);
        due("send", x.send(1, 0), 29);
        due("a message of house 29", x.message(1, 29, 0, 1, 0, 0), ASKED);
        due("requests of house 29", x.statistics(29, 0), 1);
    }

    @Of(TERMS_1)
    private static void house0IsTheFirst() {
        InterRequest x = new InterRequest(30);
        due("ask of house 0", x.ask(0, 0), 0);
        due("ask of house 1", x.ask(1, 0), 1);
        due("house 0 as a lender", x.lender(1, 0), 1);
        due("send", x.send(1, 0), 0);
        due("who holds it", x.about(1, 1), 0);
        due("a message of house 0", x.message(1, 0, 0, 4, 9, 0), SHIPPED);
        due("SHIPPED ones of house 0", x.statistics(0, 3), 1);
    }

    @Of(TERMS_1)
    private static void thereIsNoHouse30AndNoneBelow0() {
        for (int bad : new int[] {-1, 30, 31, MIN, MAX}) {
            InterRequest x = new InterRequest(MAX);
            due("ask of house " + bad, x.ask(bad, 0), NONE);
            x.ask(0, 0);
            due("house " + bad + " as a lender", x.lender(0, bad), NONE);
            due("how many lenders", x.about(0, 2), 0);
            due("a message of house " + bad, x.message(0, bad, 0, 1, 0, 0), NONE);
            due("requests of house " + bad, x.statistics(bad, 0), NONE);
        }
    }

    // ---- Terms 2: requests and their strings

    @Of(TERMS_2)
    private static void request99IsTheLast() {
        InterRequest x = new InterRequest(2);
        for (int r = 0; r < 100; r++) {
            due("ask", x.ask(0, r), r);
        }
        due("lender of 99", x.lender(99, 1), 1);
        due("send of 99", x.send(99, 0), 1);
        due("message to 99", x.message(99, 1, 0, 3, 0, 0), CONDITIONAL);
        due("condition of 99", x.condition(99, true, 0), ASKED);
        due("ship of 99", x.message(99, 1, 1, 4, 5, 0), SHIPPED);
        due("received of 99", x.received(99, 0), RECEIVED);
        due("overdue", x.overdue(6, 0), 99);
        due("back of 99", x.back(99, 0), 1);
        due("item of 99", x.about(99, 3), 99);
        due("lender of 99", x.told(99, 0, 0), 1);
        due("cancel of 98", x.cancel(98, 0), 1);
    }

    @Of(TERMS_2)
    private static void thereIsNoRequest100() {
        InterRequest x = new InterRequest(2);
        for (int r = 0; r <= 100; r++) {
            x.ask(0, 0);
        }
        due("lender of 100", x.lender(100, 1), NONE);
        for (int which = 0; which < 6; which++) {
            due(TIMED[which] + " of 100", ofRequest(which, x, 100, 0), NONE);
        }
        dueNoSuch("about 100", () -> x.about(100, 0));
        dueNoSuch("told of 100", () -> x.told(100, 0, 0));
        due("requests of house 0", x.statistics(0, 0), 100);
    }

    @Of(TERMS_2)
    private static void aStringOfOneLender() {
        InterRequest x = withString(2, 1);
        due("send", x.send(0, 3), 1);
        due("NOT SUPPLIED of the only one", x.message(0, 1, 0, 2, 0, 4), UNFILLED);
        due("when it ended", x.about(0, 8), 4);
    }

    @Of(TERMS_2)
    private static void aStringOfEightLendersIsAskedToItsEnd() {
        InterRequest x = withString(9, 8, 7, 6, 5, 4, 3, 2, 1);
        due("send", x.send(0, 0), 8);
        for (int house = 8; house >= 2; house--) {
            due("NOT SUPPLIED of house " + house, x.message(0, house, 0, 2, 0, 0), ASKED);
            due("who holds it", x.about(0, 1), house - 1);
        }
        due("NOT SUPPLIED of the eighth", x.message(0, 1, 0, 2, 0, 0), UNFILLED);
    }

    @Of(TERMS_2)
    private static void noNinthLender() {
        InterRequest x = withString(10, 1, 2, 3, 4, 5, 6, 7, 8);
        due("the ninth", x.lender(0, 9), FULL);
        due("how many", x.about(0, 2), 8);
        dueNoSuch("the ninth is none", () -> x.told(0, 8, 0));
        due("the eighth stays", x.told(0, 7, 0), 8);
    }

    @Of(TERMS_2)
    private static void lendersAreOtherHouses() {
        for (int house : new int[] {0, 3, 29}) {
            InterRequest x = new InterRequest(30);
            x.ask(house, 0);
            due("the requester " + house + " as a lender", x.lender(0, house), STATE);
            due("how many", x.about(0, 2), 0);
            due("another house", x.lender(0, house == 0 ? 1 : house - 1), 1);
        }
    }

    @Of(TERMS_2)
    private static void lendersAreInTheOrderOfTheirCalls() {
        InterRequest x = withString(5, 3, 1, 4, 2);
        int[] order = {3, 1, 4, 2};
        for (int i = 0; i < 4; i++) {
            due("lender " + i, x.told(0, i, 0), order[i]);
        }
        due("the first asked", x.send(0, 0), 3);
        for (int i = 0; i < 3; i++) {
            x.message(0, order[i], 0, 2, 0, 0);
            due("asked behind " + order[i], x.about(0, 1), order[i + 1]);
        }
    }

    @Of(TERMS_2)
    private static void noLenderTwiceInOneString() {
        InterRequest x = withString(5, 3, 1, 2);
        due("the first again", x.lender(0, 3), STATE);
        due("the second again", x.lender(0, 1), STATE);
        due("the last again", x.lender(0, 2), STATE);
        due("how many", x.about(0, 2), 3);
        x.ask(0, 0);
        due("in another request's string", x.lender(1, 3), 1);
    }

    // ---- Terms 3: times

    @Of(TERMS_3)
    private static void time0IsTheFirst() {
        for (int which = 0; which < TIMED.length; which++) {
            InterRequest x = inState(TAKEN_IN[which], ALL_AT_0);
            due(TIMED[which] + " at -1", timed(which, x, -1), RANGE);
            due(TIMED[which] + " at 0", timed(which, x, 0), TAKEN_ANSWER[which]);
        }
    }

    @Of(TERMS_3)
    private static void time1000000000IsTheLast() {
        for (int which = 0; which < TIMED.length; which++) {
            InterRequest x = inState(TAKEN_IN[which]);
            due(TIMED[which] + " behind the last", timed(which, x, LAST_TIME + 1), RANGE);
            int want = which == 4 ? 0 : TAKEN_ANSWER[which];
            due(TIMED[which] + " at the last", timed(which, x, LAST_TIME), want);
            due("waits at the last, again", x.waits(LAST_TIME) >= 0 ? 1 : 0, 1);
        }
    }

    @Of(TERMS_3)
    private static void theSameTimeIsNotBack() {
        for (int which = 0; which < TIMED.length; which++) {
            InterRequest x = inState(TAKEN_IN[which]);
            due(TIMED[which], timed(which, x, TOLD[TAKEN_IN[which]]), TAKEN_ANSWER[which]);
        }
    }

    @Of(TERMS_3)
    private static void oneSecondBackIsOutOfRange() {
        for (int which = 0; which < TIMED.length; which++) {
            InterRequest x = inState(TAKEN_IN[which]);
            x.waits(60);
            due(TIMED[which] + " one second back", timed(which, x, 59), RANGE);
            int want = which == 4 ? 0 : TAKEN_ANSWER[which];
            due(TIMED[which] + " at the same time", timed(which, x, 60), want);
        }
    }

    @Of(TERMS_3)
    private static void eachCallThatIsTakenTellsItsTime() {
        for (int which = 0; which < TIMED.length; which++) {
            InterRequest x = inState(TAKEN_IN[which]);
            timed(which, x, 70);
            due("waits a second before " + TIMED[which], x.waits(69), RANGE);
            due("waits at " + TIMED[which], x.waits(70), 0);
        }
    }

    @Of(TERMS_3)
    private static void eachKindOfMessageThatIsTakenTellsItsTime() {
        for (int kind = 1; kind <= 5; kind++) {
            InterRequest x = inState(kind == 5 ? RETURNED : ASKED);
            due("kind " + kind + " is taken", x.message(0, 1, 9, kind, 99, 70) > 0 ? 1 : 0, 1);
            due("waits a second before kind " + kind, x.waits(69), RANGE);
        }
    }

    @Of(TERMS_3)
    private static void theTimeIsOneForAllRequests() {
        InterRequest x = inState(ASKED);
        x.ask(1, 0);
        x.lender(1, 2);
        due("the other request, a second before", x.send(1, 9), RANGE);
        due("the other request", x.send(1, 12), 2);
        due("the first request, a second before", x.message(0, 1, 0, 1, 0, 11), RANGE);
        due("the first request", x.message(0, 1, 0, 1, 0, 12), ASKED);
    }

    @Of(TERMS_3)
    private static void whatAnswersNoneTellsNoTime() {
        for (int which = 0; which < 6; which++) {
            InterRequest x = inState(TAKEN_IN[which]);
            due(TIMED[which] + " of no request", ofRequest(which, x, 1, 999), NONE);
            due("at the time before", timed(which, x, TOLD[TAKEN_IN[which]]), TAKEN_ANSWER[which]);
        }
        InterRequest y = inState(ASKED);
        due("a message of no house", y.message(0, 5, 0, 1, 0, 999), NONE);
        due("at the time before", y.waits(10), 0);
    }

    @Of(TERMS_3)
    private static void whatAnswersRangeTellsNoTime() {
        for (int which = 0; which < TIMED.length; which++) {
            InterRequest x = inState(TAKEN_IN[which]);
            due(TIMED[which] + " too late", timed(which, x, LAST_TIME + 1), RANGE);
            due("at the time before", timed(which, x, TOLD[TAKEN_IN[which]]), TAKEN_ANSWER[which]);
        }
        InterRequest y = inState(ASKED);
        due("a kind that can't be", y.message(0, 1, 0, 6, 0, 999), RANGE);
        due("a number that can't be", y.message(0, 1, 1001, 1, 0, 999), RANGE);
        due("a due time that can't be", y.message(0, 1, 0, 4, 999, 999), RANGE);
        due("at the time before", y.waits(10), 0);
    }

    @Of(TERMS_3)
    private static void whatAnswersWrongTellsNoTime() {
        InterRequest x = inState(ASKED);
        due("a message of another lender", x.message(0, 2, 0, 1, 0, 999), WRONG);
        due("at the time before", x.message(0, 1, 0, 1, 0, 10), ASKED);
    }

    @Of(TERMS_3)
    private static void whatAnswersDoubleTellsNoTime() {
        InterRequest x = inState(ASKED_WILL_SUPPLY);
        due("the number again", x.message(0, 1, 4, 2, 0, 999), DOUBLE);
        due("at the time before", x.message(0, 1, 5, 2, 0, 20), ASKED);
    }

    @Of(TERMS_3)
    private static void whatAnswersStateTellsNoTime() {
        for (int which = 0; which < 6; which++) {
            int state = which == 1 ? SHIPPED : which == 0 ? ASKED : DONE;
            InterRequest x = inState(state);
            due(TIMED[which], timed(which, x, 999), STATE);
            due("at the time before", x.waits(TOLD[state]), 0);
        }
    }

    @Of(TERMS_3)
    private static void callsWithoutATimeTellNone() {
        InterRequest x = inState(RECEIVED);
        due("overdue at a later time", x.overdue(LAST_TIME, 0), 0);
        due("span", x.span(5000), 1);
        due("ask", x.ask(0, 5000), 1);
        due("at the time before", x.waits(30), 0);
    }

    // ---- Terms 4 and 5: the states of both sides

    @Of(TERMS_4)
    private static void theRequestersStatesHaveTheirNumbers() {
        for (int state = NEW; state <= CANCELLED; state++) {
            due("the requester's state", inState(state).about(0, 0), state);
        }
    }

    @Of(TERMS_4)
    private static void aLenderHoldsItWhileItIsAskedOrConditional() {
        due("NEW: nobody", inState(NEW).about(0, 1), -1);
        due("ASKED", inState(ASKED).about(0, 1), 1);
        due("CONDITIONAL: that lender", inState(CONDITIONAL).about(0, 1), 1);
        due("UNFILLED: no lender is left", inState(UNFILLED).about(0, 1), -1);
    }

    @Of(TERMS_5)
    private static void theLendersStatesHaveTheirNumbers() {
        int[] want = {0, 1, 2, 4, 4, 4, 5, 6, 8, 3};
        for (int state = NEW; state <= ASKED_WILL_SUPPLY; state++) {
            due("the first lender's, the requester's is " + state, inState(state).told(0, 0, 1), want[state]);
        }
        InterRequest x = inState(ASKED);
        x.waits(LAST_TIME);
        due("PASSED", x.told(0, 0, 1), 7);
    }

    @Of(TERMS_5)
    private static void eachLenderHasAStateOfItsOwn() {
        for (int state = NEW; state <= ASKED_WILL_SUPPLY; state++) {
            int want = state == UNFILLED ? 6 : 0;
            due("the second lender's in " + state, inState(state).told(0, 1, 1), want);
            due("the third lender's in " + state, inState(state).told(0, 2, 1), want);
        }
    }

    // ---- Terms 6: to ask

    @Of(TERMS_6)
    private static void theNextLenderIsInProcessAndTheRequestAsked() {
        InterRequest x = inState(ASKED);
        x.message(0, 1, 0, 2, 0, 11);
        due("the request", x.about(0, 0), ASKED);
        due("who holds it", x.about(0, 1), 2);
        due("the second lender", x.told(0, 1, 1), 1);
        due("the third lender", x.told(0, 2, 1), 0);
    }

    @Of(TERMS_6)
    private static void aLenderThatHadItIsNotAskedAgain() {
        InterRequest x = inState(ASKED);
        x.message(0, 1, 0, 2, 0, 11);
        x.waits(11 + DAY + 1);
        x.message(0, 3, 0, 3, 0, 90000);
        due("no to the last one", x.condition(0, false, 90000), UNFILLED);
        due("NOT SUPPLIED stays", x.told(0, 0, 1), 6);
        due("PASSED stays", x.told(0, 1, 1), 7);
        due("the last is NOT SUPPLIED", x.told(0, 2, 1), 6);
    }

    private static void isUnfilled(InterRequest x, int t) {
        due("UNFILLED", x.about(0, 0), UNFILLED);
        due("nobody holds it", x.about(0, 1), -1);
        due("when", x.about(0, 8), t);
    }

    @Of(TERMS_6)
    private static void whereThereIsNoneByASend() {
        InterRequest x = withString(2);
        due("send", x.send(0, 5), 100);
        isUnfilled(x, 5);
    }

    @Of(TERMS_6)
    private static void whereThereIsNoneByNotSupplied() {
        InterRequest x = withString(2, 1);
        x.send(0, 5);
        due("NOT SUPPLIED", x.message(0, 1, 0, 2, 0, 6), UNFILLED);
        isUnfilled(x, 6);
    }

    @Of(TERMS_6)
    private static void whereThereIsNoneByANo() {
        InterRequest x = withString(2, 1);
        x.send(0, 5);
        x.message(0, 1, 0, 3, 0, 6);
        due("no", x.condition(0, false, 7), UNFILLED);
        isUnfilled(x, 7);
    }

    @Of(TERMS_6)
    private static void whereThereIsNoneByATimeOut() {
        InterRequest x = withString(2, 1);
        x.send(0, 5);
        due("waits", x.waits(6 + DAY), 1);
        isUnfilled(x, 6 + DAY);
    }

    // ---- Terms 7: who may send messages, and their numbers

    @Of(TERMS_7)
    private static void theHolderIsHeardInItsFourStates() {
        for (int state : new int[] {ASKED, CONDITIONAL, ASKED_WILL_SUPPLY, SHIPPED, RECEIVED, RETURNED}) {
            int want = state == ASKED ? ASKED : state == ASKED_WILL_SUPPLY ? ASKED : STATE;
            due("of the holder in " + state, inState(state).message(0, 1, 9, 2, 0, 60), want);
        }
    }

    @Of(TERMS_7)
    private static void whoDoesNotHoldItIsNotHeard() {
        for (int state = NEW; state <= ASKED_WILL_SUPPLY; state++) {
            for (int house : new int[] {0, 2, 3, 4}) {
                refused("of house " + house, state, WRONG, x -> x.message(0, house, 9, 1, 0, 60));
            }
        }
    }

    @Of(TERMS_7)
    private static void nobodyHoldsItBeforeAndBehindItsWay() {
        for (int state : new int[] {NEW, DONE, UNFILLED, CANCELLED}) {
            for (int kind = 1; kind <= 5; kind++) {
                int k = kind;
                refused("kind " + kind + " of the first lender", state, WRONG, x -> x.message(0, 1, 9, k, 99, 60));
            }
        }
    }

    @Of(TERMS_7)
    private static void whoWasPassedHoldsItNoMore() {
        InterRequest x = inState(ASKED);
        x.waits(LAST_TIME);
        due("of the one that was PASSED", x.message(0, 1, 9, 1, 0, LAST_TIME), WRONG);
        due("of the next one", x.message(0, 2, 9, 1, 0, LAST_TIME), ASKED);
    }

    @Of(TERMS_7)
    private static void numbersAre0To1000() {
        due("number 0", inState(ASKED).message(0, 1, 0, 1, 0, 10), ASKED);
        due("number 1000", inState(ASKED).message(0, 1, 1000, 1, 0, 10), ASKED);
        for (int bad : new int[] {-1, 1001, MIN, MAX}) {
            refused("number " + bad, ASKED, RANGE, x -> x.message(0, 1, bad, 1, 0, 60));
        }
    }

    @Of(TERMS_7)
    private static void aNumberNotAboveTheGreatestIsADouble() {
        InterRequest x = inState(ASKED_WILL_SUPPLY);
        due("the same number", x.message(0, 1, 4, 2, 0, 20), DOUBLE);
        due("a number less", x.message(0, 1, 3, 2, 0, 20), DOUBLE);
        due("number 0", x.message(0, 1, 0, 2, 0, 20), DOUBLE);
        due("one more", x.message(0, 1, 5, 2, 0, 20), ASKED);
    }

    @Of(TERMS_7)
    private static void behindNumber1000AllAreDoubles() {
        InterRequest x = inState(ASKED);
        due("number 1000", x.message(0, 1, 1000, 1, 0, 20), ASKED);
        due("number 1000 again", x.message(0, 1, 1000, 2, 0, 20), DOUBLE);
        due("number 999", x.message(0, 1, 999, 2, 0, 20), DOUBLE);
        due("number 1001 can't be", x.message(0, 1, 1001, 2, 0, 20), RANGE);
        due("doubles", x.about(0, 5), 2);
    }

    @Of(TERMS_7)
    private static void number0TwiceIsADouble() {
        InterRequest x = inState(ASKED);
        due("number 0", x.message(0, 1, 0, 1, 0, 20), ASKED);
        due("number 0 again", x.message(0, 1, 0, 2, 0, 20), DOUBLE);
    }

    @Of(TERMS_7)
    private static void aNumberThatWasTakenStaysTakenBehindAYes() {
        InterRequest x = inState(CONDITIONAL);
        x.condition(0, true, 20);
        due("the number of the condition", x.message(0, 1, 4, 1, 0, 20), DOUBLE);
        due("one more", x.message(0, 1, 5, 1, 0, 20), ASKED);
    }

    @Of(TERMS_7)
    private static void theGreatestIsOfThisLender() {
        InterRequest x = inState(ASKED);
        x.message(0, 1, 1000, 2, 0, 20);
        due("number 0 of the next lender", x.message(0, 2, 0, 1, 0, 20), ASKED);
        due("doubles", x.about(0, 5), 0);
    }

    @Of(TERMS_7)
    private static void theGreatestIsForThisRequest() {
        InterRequest x = inState(ASKED);
        x.ask(4, 0);
        x.lender(1, 1);
        x.send(1, 10);
        x.message(0, 1, 1000, 1, 0, 20);
        due("number 0 for the other request", x.message(1, 1, 0, 1, 0, 20), ASKED);
        due("and again", x.message(1, 1, 0, 1, 0, 20), DOUBLE);
        due("doubles of the first", x.about(0, 5), 0);
        due("doubles of the other", x.about(1, 5), 1);
    }

    @Of(TERMS_7)
    private static void aDoubleDoesNothingButCount() {
        for (int state : new int[] {CONDITIONAL, SHIPPED, RECEIVED, RETURNED, ASKED_WILL_SUPPLY}) {
            for (int kind = 1; kind <= 5; kind++) {
                InterRequest x = inState(state);
                String[] before = {said(x, 0), said(x, 6), said(x, 8), said(x, 1), lenders(x)};
                due("kind " + kind + " in " + state, x.message(0, 1, 4, kind, 999, 60), DOUBLE);
                String[] after = {said(x, 0), said(x, 6), said(x, 8), said(x, 1), lenders(x)};
                due("nothing happened", Arrays.equals(before, after) ? 1 : 0, 1);
                due("it is counted", x.about(0, 5), 1);
            }
        }
    }

    private static String said(InterRequest x, int what) {
        return String.valueOf(x.about(0, what));
    }

    private static String lenders(InterRequest x) {
        StringBuilder all = new StringBuilder();
        for (int i = 0; i < 3; i++) {
            all.append(x.told(0, i, 1)).append(' ').append(x.told(0, i, 2)).append(' ');
        }
        return all.toString();
    }

    // ---- Terms 8: the kinds

    /** The answers of a kind of the first lender in ASKED, CONDITIONAL, SHIPPED, RECEIVED, RETURNED, WILL SUPPLY. */
    private static void kind(int kind, int... answers) {
        int[] states = {ASKED, CONDITIONAL, SHIPPED, RECEIVED, RETURNED, ASKED_WILL_SUPPLY};
        for (int k = 0; k < states.length; k++) {
            if (answers[k] == STATE) {
                refused("kind " + kind, states[k], STATE, x -> x.message(0, 1, 9, kind, 99, 60));
            } else {
                InterRequest x = inState(states[k]);
                due("kind " + kind + " in " + states[k], x.message(0, 1, 9, kind, 99, 60), answers[k]);
                due("the requester's state", x.about(0, 0), answers[k]);
            }
        }
    }

    @Of(TERMS_8)
    private static void willSupplyIsOfInProcess() {
        kind(1, ASKED, STATE, STATE, STATE, STATE, STATE);
        due("the lender", inState(ASKED_WILL_SUPPLY).told(0, 0, 1), 3);
    }

    @Of(TERMS_8)
    private static void notSuppliedIsOfInProcessAndWillSupply() {
        kind(2, ASKED, STATE, STATE, STATE, STATE, ASKED);
        for (int state : new int[] {ASKED, ASKED_WILL_SUPPLY}) {
            InterRequest x = inState(state);
            x.message(0, 1, 9, 2, 0, 60);
            due("the lender", x.told(0, 0, 1), 6);
            due("the next one", x.told(0, 1, 1), 1);
            due("who holds it", x.about(0, 1), 2);
        }
    }

    @Of(TERMS_8)
    private static void conditionIsOfInProcess() {
        kind(3, CONDITIONAL, STATE, STATE, STATE, STATE, STATE);
        due("the lender", inState(CONDITIONAL).told(0, 0, 1), 2);
    }

    @Of(TERMS_8)
    private static void shipIsOfInProcessAndWillSupply() {
        kind(4, SHIPPED, STATE, STATE, STATE, STATE, SHIPPED);
        for (int state : new int[] {ASKED, ASKED_WILL_SUPPLY}) {
            InterRequest x = inState(state);
            x.message(0, 1, 9, 4, 99, 60);
            due("the lender", x.told(0, 0, 1), 4);
            due("the due time", x.about(0, 6), 99);
        }
    }

    @Of(TERMS_8)
    private static void checkedInIsOfShippedOnceTheRequesterHasReturned() {
        kind(5, STATE, STATE, STATE, STATE, DONE, STATE);
        InterRequest x = inState(RETURNED);
        x.message(0, 1, 9, 5, 0, 60);
        due("the lender", x.told(0, 0, 1), 5);
        due("when", x.about(0, 8), 60);
    }

    // ---- Terms 9: conditions

    @Of(TERMS_9)
    private static void yesMakesTheLenderInProcessAgain() {
        InterRequest x = inState(CONDITIONAL);
        due("yes", x.condition(0, true, 25), ASKED);
        due("the lender", x.told(0, 0, 1), 1);
        due("who holds it", x.about(0, 1), 1);
        due("the next lender", x.told(0, 1, 1), 0);
        due("it may ship", x.message(0, 1, 5, 4, 99, 25), SHIPPED);
    }

    @Of(TERMS_9)
    private static void yesMayBeFollowedByAConditionMore() {
        InterRequest x = inState(CONDITIONAL);
        x.condition(0, true, 25);
        due("a condition more", x.message(0, 1, 5, 3, 0, 26), CONDITIONAL);
        due("no", x.condition(0, false, 27), ASKED);
    }

    @Of(TERMS_9)
    private static void noGoesToTheNextOne() {
        InterRequest x = inState(CONDITIONAL);
        due("no", x.condition(0, false, 25), ASKED);
        due("the lender", x.told(0, 0, 1), 6);
        due("the next lender", x.told(0, 1, 1), 1);
        due("who holds it", x.about(0, 1), 2);
        due("it is counted", x.statistics(1, 4), 1);
    }

    // ---- Terms 10: time out

    /** Nobody is PASSED after just so many seconds, the first lender is after one more. */
    private static void passesBehind(InterRequest x, int begin, int span) {
        due("after just " + span + " seconds", x.waits(begin + span), 0);
        due("who holds it", x.about(0, 1), 1);
        due("a second later", x.waits(begin + span + 1), 1);
        due("PASSED", x.told(0, 0, 1), 7);
        due("the next one", x.told(0, 1, 1), 1);
        due("who holds it then", x.about(0, 1), 2);
    }

    @Of(TERMS_10)
    private static void inProcessForMoreThan86400Seconds() {
        passesBehind(inState(ASKED), 10, DAY);
    }

    @Of(TERMS_10)
    private static void willSupplyForMoreThan86400Seconds() {
        passesBehind(inState(ASKED_WILL_SUPPLY), 20, DAY);
    }

    @Of(TERMS_10)
    private static void fromTime0On() {
        passesBehind(inState(ASKED, ALL_AT_0), 0, DAY);
    }

    @Of(TERMS_10)
    private static void inProcessAgainByAYes() {
        InterRequest x = inState(CONDITIONAL);
        due("no time out of a condition", x.waits(200000), 0);
        x.condition(0, true, 300000);
        passesBehind(x, 300000, DAY);
    }

    @Of(TERMS_10)
    private static void aMessageThatIsTakenBeginsTheWaitAnew() {
        InterRequest x = inState(ASKED);
        due("at the last second", x.message(0, 1, 0, 1, 0, 10 + DAY), ASKED);
        passesBehind(x, 10 + DAY, DAY);
    }

    @Of(TERMS_10)
    private static void aMessageThatIsNotTakenDoesNot() {
        InterRequest x = inState(ASKED_WILL_SUPPLY);
        due("RANGE", x.message(0, 1, 9, 6, 0, 30), RANGE);
        due("WRONG", x.message(0, 2, 9, 1, 0, 30), WRONG);
        due("DOUBLE", x.message(0, 1, 4, 2, 0, 30), DOUBLE);
        due("STATE", x.message(0, 1, 9, 1, 0, 30), STATE);
        passesBehind(x, 20, DAY);
    }

    @Of(TERMS_10)
    private static void waitsThatPassNobodyDoNotBeginTheWaitAnew() {
        InterRequest x = inState(ASKED);
        due("waits", x.waits(5000), 0);
        due("waits", x.waits(50000), 0);
        passesBehind(x, 10, DAY);
    }

    @Of(TERMS_10)
    private static void theNextOneWaitsFromItsOwnBegin() {
        InterRequest x = inState(ASKED);
        x.waits(100000);
        due("the next one, after just its SPAN", x.waits(100000 + DAY), 0);
        due("a second later", x.waits(100001 + DAY), 1);
        due("the third one", x.about(0, 1), 3);
    }

    @Of(TERMS_10)
    private static void onlyWhoIsInProcessOrWillSupplyIsPassed() {
        for (int state = NEW; state <= ASKED_WILL_SUPPLY; state++) {
            InterRequest x = inState(state);
            int lender = x.told(0, 0, 1);
            boolean waiting = state == ASKED || state == ASKED_WILL_SUPPLY;
            due("waits in " + state, x.waits(LAST_TIME), waiting ? 1 : 0);
            due("the lender in " + state, x.told(0, 0, 1), waiting ? 7 : lender);
        }
    }

    @Of(TERMS_10)
    private static void spanIsOf86400SecondsAtFirst() {
        InterRequest x = withString(2, 1);
        x.send(0, 0);
        due("after 86400 seconds", x.waits(86400), 0);
        due("after 86401 seconds", x.waits(86401), 1);
    }

    // ---- Terms 11 and 12: cancelled

    @Of(TERMS_11)
    private static void aNewOneMayBeCancelled() {
        InterRequest x = inState(NEW);
        due("cancel", x.cancel(0, 5), 1);
        due("the requester's state", x.about(0, 0), CANCELLED);
        for (int i = 0; i < 3; i++) {
            due("no lender held it", x.told(0, i, 1), 0);
        }
    }

    @Of(TERMS_11)
    private static void whoHoldsItIsCancelledToo() {
        for (int state : new int[] {ASKED, CONDITIONAL, ASKED_WILL_SUPPLY}) {
            InterRequest x = inState(state);
            due("cancel in " + state, x.cancel(0, 25), 1);
            due("the requester's state", x.about(0, 0), CANCELLED);
            due("the lender's", x.told(0, 0, 1), 8);
            due("the next lender's", x.told(0, 1, 1), 0);
            due("nobody holds it", x.about(0, 1), -1);
        }
    }

    @Of(TERMS_11)
    private static void onlyTheOneThatHoldsItIsCancelled() {
        InterRequest x = inState(ASKED);
        x.message(0, 1, 0, 2, 0, 11);
        due("cancel", x.cancel(0, 12), 1);
        due("the one before stays", x.told(0, 0, 1), 6);
        due("the one that held it", x.told(0, 1, 1), 8);
        due("the one behind stays", x.told(0, 2, 1), 0);
    }

    @Of(TERMS_12)
    private static void oneThatIsShippedCannotBeCancelled() {
        refused("cancel", SHIPPED, STATE, x -> x.cancel(0, 60));
        InterRequest x = inState(SHIPPED);
        x.cancel(0, 60);
        due("it may be received", x.received(0, 60), RECEIVED);
    }

    // ---- Terms 13 to 18: the constants

    @Of(TERMS_13)
    private static void theConstantsHaveTheirNumbers() {
        due("NONE", InterRequest.NONE, -1);
        due("RANGE", InterRequest.RANGE, -2);
        due("STATE", InterRequest.STATE, -3);
        due("FULL", InterRequest.FULL, -4);
        due("WRONG", InterRequest.WRONG, -5);
        due("DOUBLE", InterRequest.DOUBLE, -6);
    }

    // ---- Promise 1: a new object

    private static void hasHouses(int told, int houses) {
        InterRequest x = new InterRequest(told);
        due("the last house of " + told, x.statistics(houses - 1, 0), 0);
        due("the house behind the last of " + told, x.statistics(houses, 0), NONE);
        due("ask of the house behind the last of " + told, x.ask(houses, 0), NONE);
        due("ask of the last house of " + told, x.ask(houses - 1, 0), 0);
    }

    @Of(P01S1)
    private static void from1To30HousesAsTold() {
        for (int houses = 1; houses <= 30; houses++) {
            hasHouses(houses, houses);
        }
    }

    @Of(P01S1)
    private static void lessThan1HouseIs1() {
        hasHouses(0, 1);
        hasHouses(-1, 1);
        hasHouses(MIN, 1);
    }

    @Of(P01S1)
    private static void moreThan30HousesAre30() {
        hasHouses(31, 30);
        hasHouses(MAX, 30);
    }

    @Of(P01S1)
    private static void aNewObjectHasNoRequests() {
        InterRequest x = new InterRequest(5);
        for (int which = 0; which < 6; which++) {
            due(TIMED[which], ofRequest(which, x, 0, 0), NONE);
        }
        due("lender", x.lender(0, 1), NONE);
        due("waits", x.waits(0), 0);
        due("requests of house 0", x.statistics(0, 0), 0);
        dueNoSuch("about", () -> x.about(0, 0));
        dueNoSuch("told", () -> x.told(0, 0, 0));
        dueNoSuch("overdue", () -> x.overdue(LAST_TIME, 0));
        due("the first request", x.ask(0, 0), 0);
    }

    @Of(P01S1)
    private static void objectsKnowNothingOfOneAnother() {
        InterRequest x = inState(ASKED);
        InterRequest other = inState(ASKED);
        due("span of the other", other.span(1), 1);
        due("waits of the other", other.waits(LAST_TIME), 1);
        due("a request more of the other", other.ask(0, 0), 1);
        due("its own SPAN and time", x.waits(10 + DAY), 0);
        due("its own requests", x.ask(0, 0), 1);
        due("its own lenders", x.told(0, 0, 1), 1);
    }

    // ---- Promise 2: ask

    @Of(P02S1)
    private static void requestsAreNumberedFrom0To99() {
        InterRequest x = new InterRequest(3);
        for (int r = 0; r < 100; r++) {
            due("ask", x.ask(r % 3, 1000 + r), r);
        }
        due("the first one's item", x.about(0, 3), 1000);
        due("the last one's item", x.about(99, 3), 1099);
        due("the last one's house", x.about(99, 4), 0);
    }

    @Of(P02S1)
    private static void aRequestMoreIsNewWithNoLenders() {
        InterRequest x = inState(SHIPPED);
        due("ask", x.ask(2, 8), 1);
        int[] want = {NEW, -1, 0, 8, 2, 0, -1, -1, -1};
        for (int what = 0; what < want.length; what++) {
            due("about(1, " + what + ")", x.about(1, what), want[what]);
        }
        dueNoSuch("its first lender", () -> x.told(1, 0, 0));
    }

    @Of(P02S1)
    private static void numbersOfEndedRequestsAreNotUsedAgain() {
        due("behind DONE", inState(DONE).ask(0, 0), 1);
        due("behind UNFILLED", inState(UNFILLED).ask(0, 0), 1);
        due("behind CANCELLED", inState(CANCELLED).ask(0, 0), 1);
    }

    @Of(P02S2)
    private static void askOfNoSuchHouse() {
        for (int bad : new int[] {-1, 5, 29, 30, MIN, MAX}) {
            refused("ask of house " + bad, ASKED, NONE, x -> x.ask(bad, 0));
            refused("ask of house " + bad + " for no item", ASKED, NONE, x -> x.ask(bad, -1));
        }
    }

    @Of(P02S2)
    private static void itemsAre0To100000() {
        due("item 0", new InterRequest(1).ask(0, 0), 0);
        InterRequest x = new InterRequest(1);
        due("item 100000", x.ask(0, 100000), 0);
        due("the item", x.about(0, 3), 100000);
        for (int bad : new int[] {-1, 100001, MIN, MAX}) {
            refused("item " + bad, ASKED, RANGE, y -> y.ask(0, bad));
        }
    }

    @Of(P02S2)
    private static void aRefusedAskTakesNoNumber() {
        InterRequest x = new InterRequest(2);
        x.ask(2, 0);
        x.ask(0, 100001);
        due("the first one that is taken", x.ask(0, 0), 0);
        due("requests of house 0", x.statistics(0, 0), 1);
    }

    private static InterRequest full() {
        InterRequest x = new InterRequest(2);
        for (int r = 0; r < 100; r++) {
            x.ask(0, r);
        }
        return x;
    }

    @Of(P02S2)
    private static void the101stRequestIsFull() {
        InterRequest x = full();
        due("the 101st", x.ask(0, 7), FULL);
        due("the 102nd", x.ask(1, 7), FULL);
        due("requests of house 0", x.statistics(0, 0), 100);
        due("requests of house 1", x.statistics(1, 0), 0);
        due("the last one's item", x.about(99, 3), 99);
        due("the first one's item", x.about(0, 3), 0);
    }

    @Of(P02S2)
    private static void the100thRequestIsNotFull() {
        InterRequest x = new InterRequest(2);
        for (int r = 0; r < 99; r++) {
            x.ask(0, r);
        }
        due("the 100th", x.ask(0, 7), 99);
    }

    @Of(P02S2)
    private static void noneAndRangeComeBeforeFull() {
        due("no such house", full().ask(2, 0), NONE);
        due("no such item", full().ask(0, 100001), RANGE);
    }

    @Of(P02S2)
    private static void cancelledRequestsMakeNoRoom() {
        InterRequest x = full();
        x.cancel(5, 0);
        due("the 101st", x.ask(0, 7), FULL);
    }

    // ---- Promise 3: lender

    @Of(P03S1)
    private static void howManyLendersFrom1To8() {
        InterRequest x = new InterRequest(9);
        x.ask(0, 0);
        for (int house = 1; house <= 8; house++) {
            due("lender " + house, x.lender(0, house), house);
            due("how many", x.about(0, 2), house);
            due("the last of the string", x.told(0, house - 1, 0), house);
        }
    }

    @Of(P03S1)
    private static void aNewLenderHasNoStateAndNoNumber() {
        InterRequest x = inState(NEW);
        due("lender", x.lender(0, 4), 4);
        due("its state", x.told(0, 3, 1), 0);
        due("its number", x.told(0, 3, 2), -1);
    }

    @Of(P03S1)
    private static void lendersAreOfTheirRequestAlone() {
        InterRequest x = inState(NEW);
        x.ask(4, 0);
        due("the other request's first", x.lender(1, 0), 1);
        due("how many of the first", x.about(0, 2), 3);
    }

    @Of(P03S2)
    private static void lenderOfNoSuchRequest() {
        for (int bad : NO_REQUESTS) {
            refused("lender of request " + bad, NEW, NONE, x -> x.lender(bad, 4));
        }
    }

    @Of(P03S2)
    private static void noSuchHouseAsALender() {
        for (int bad : new int[] {-1, 5, 30, MIN, MAX}) {
            refused("house " + bad, NEW, NONE, x -> x.lender(0, bad));
            refused("house " + bad, SHIPPED, NONE, x -> x.lender(0, bad));
        }
    }

    @Of(P03S2)
    private static void noLenderMoreOnceItIsNotNew() {
        for (int state = ASKED; state <= CANCELLED; state++) {
            refused("lender", state, STATE, x -> x.lender(0, 4));
        }
    }

    @Of(P03S2)
    private static void theRequesterIsNoLender() {
        refused("the requester", NEW, STATE, x -> x.lender(0, 0));
    }

    @Of(P03S2)
    private static void whoIsInItAlready() {
        for (int house = 1; house <= 3; house++) {
            int again = house;
            refused("house " + house + " again", NEW, STATE, x -> x.lender(0, again));
        }
    }

    @Of(P03S2)
    private static void theNinthLenderIsFull() {
        InterRequest x = withString(10, 1, 2, 3, 4, 5, 6, 7);
        due("the eighth", x.lender(0, 8), 8);
        due("the ninth", x.lender(0, 9), FULL);
        due("how many", x.about(0, 2), 8);
    }

    @Of(P03S2)
    private static void noneAndStateComeBeforeFull() {
        InterRequest x = withString(10, 1, 2, 3, 4, 5, 6, 7, 8);
        due("no such house", x.lender(0, 10), NONE);
        due("the requester", x.lender(0, 0), STATE);
        due("in it already", x.lender(0, 8), STATE);
        x.send(0, 0);
        due("not NEW", x.lender(0, 9), STATE);
    }

    // ---- Promise 4: send

    @Of(P04S1)
    private static void sendAnswersTheFirstLender() {
        InterRequest x = inState(NEW);
        due("send", x.send(0, 10), 1);
        due("ASKED", x.about(0, 0), ASKED);
        due("IN PROCESS", x.told(0, 0, 1), 1);
        due("the second one", x.told(0, 1, 1), 0);
        due("when", x.about(0, 7), 10);
    }

    @Of(P04S1)
    private static void sendMayAnswerHouse0() {
        InterRequest x = new InterRequest(2);
        x.ask(1, 0);
        x.lender(0, 0);
        due("send", x.send(0, 10), 0);
    }

    @Of(P04S1)
    private static void sendWithNoLenderIs100AndUnfilled() {
        InterRequest x = withString(30);
        due("send", x.send(0, 10), 100);
        due("UNFILLED", x.about(0, 0), UNFILLED);
        due("how many of the house", x.statistics(0, 2), 1);
        due("when it ended", x.about(0, 8), 10);
        due("again", x.send(0, 10), STATE);
    }

    @Of(P04S2)
    private static void sendOfNoSuchRequest() {
        noSuchRequest(0);
    }

    @Of(P04S2)
    private static void sendAtNoSuchTime() {
        noSuchTime(0);
        InterRequest x = inState(NEW);
        x.waits(7);
        due("a second back", x.send(0, 6), RANGE);
        due("still NEW", x.about(0, 0), NEW);
    }

    @Of(P04S2)
    private static void sendOfOneThatIsNotNew() {
        onlyInStates(0, NEW);
    }

    // ---- Promise 5: message

    @Of(P05S1)
    private static void kindsAre1To5() {
        due("kind 1", inState(ASKED).message(0, 1, 9, 1, 0, 20), ASKED);
        due("kind 5", inState(RETURNED).message(0, 1, 9, 5, 0, 60), DONE);
        for (int bad : new int[] {0, -1, 6, MIN, MAX}) {
            refused("kind " + bad, ASKED, RANGE, x -> x.message(0, 1, 9, bad, 99, 60));
            refused("kind " + bad, RETURNED, RANGE, x -> x.message(0, 1, 9, bad, 99, 60));
        }
    }

    @Of(P05S1)
    private static void theDueTimeIsBehindT() {
        InterRequest x = inState(ASKED);
        due("one second behind t", x.message(0, 1, 9, 4, 61, 60), SHIPPED);
        due("the due time", x.about(0, 6), 61);
        for (int bad : new int[] {60, 59, 0, -1, MIN}) {
            refused("due at " + bad, ASKED, RANGE, y -> y.message(0, 1, 9, 4, bad, 60));
        }
    }

    @Of(P05S1)
    private static void theDueTimeIsATime() {
        InterRequest x = inState(ASKED);
        due("due at the last time", x.message(0, 1, 9, 4, LAST_TIME, 60), SHIPPED);
        due("the due time", x.about(0, 6), LAST_TIME);
        for (int bad : new int[] {LAST_TIME + 1, MAX}) {
            refused("due at " + bad, ASKED, RANGE, y -> y.message(0, 1, 9, 4, bad, 60));
        }
    }

    @Of(P05S1)
    private static void atTheLastTimeNothingCanBeShipped() {
        InterRequest x = inState(ASKED);
        x.span(10000000);
        due("due at it", x.message(0, 1, 9, 4, LAST_TIME, LAST_TIME), RANGE);
        due("due behind it", x.message(0, 1, 9, 4, LAST_TIME + 1, LAST_TIME), RANGE);
        due("due at MAX", x.message(0, 1, 9, 4, MAX, LAST_TIME), RANGE);
        due("a second before", x.message(0, 1, 9, 4, LAST_TIME, LAST_TIME - 1), SHIPPED);
    }

    @Of(P05S1)
    private static void theValueDoesNotMatterElse() {
        for (int v : new int[] {MIN, -1, 0, 59, 60, LAST_TIME + 1, MAX}) {
            due("WILL SUPPLY with " + v, inState(ASKED).message(0, 1, 9, 1, v, 60), ASKED);
            due("NOT SUPPLIED with " + v, inState(ASKED).message(0, 1, 9, 2, v, 60), ASKED);
            due("CONDITION with " + v, inState(ASKED).message(0, 1, 9, 3, v, 60), CONDITIONAL);
            due("CHECKED IN with " + v, inState(RETURNED).message(0, 1, 9, 5, v, 60), DONE);
        }
    }

    @Of(P05S1)
    private static void theValueOfOtherKindsIsNoDueTime() {
        for (int kind = 1; kind <= 3; kind++) {
            InterRequest x = inState(ASKED);
            x.message(0, 1, 9, kind, 99, 60);
            due("the due time behind kind " + kind, x.about(0, 6), -1);
        }
        InterRequest y = inState(RETURNED);
        y.message(0, 1, 9, 5, 99, 60);
        due("the due time behind CHECKED IN", y.about(0, 6), DUE);
    }

    @Of(P05S1)
    private static void notSuppliedOfTheLastAnswersUnfilled() {
        InterRequest x = inState(ASKED);
        due("of the first", x.message(0, 1, 0, 2, 0, 11), ASKED);
        due("of the second", x.message(0, 2, 0, 2, 0, 12), ASKED);
        due("of the last", x.message(0, 3, 0, 2, 0, 13), UNFILLED);
    }

    @Of(P05S2)
    private static void messageToNoSuchRequest() {
        noSuchRequest(1);
    }

    @Of(P05S2)
    private static void messageOfNoSuchHouse() {
        for (int bad : new int[] {-1, 5, 29, 30, MIN, MAX}) {
            refused("of house " + bad, ASKED, NONE, x -> x.message(0, bad, 9, 1, 0, 60));
        }
    }

    @Of(P05S2)
    private static void messageAtNoSuchTime() {
        noSuchTime(1);
    }

    @Of(P05S2)
    private static void noneComesBeforeRange() {
        refused("no request, no time", ASKED, NONE, x -> x.message(1, 1, 9, 1, 0, -1));
        refused("no request, no number", ASKED, NONE, x -> x.message(1, 1, 1001, 1, 0, 60));
        refused("no house, no kind", ASKED, NONE, x -> x.message(0, 5, 9, 6, 0, 60));
        refused("no house, no due time", ASKED, NONE, x -> x.message(0, 5, 9, 4, 60, 60));
    }

    @Of(P05S2)
    private static void rangeComesBeforeWrong() {
        refused("no number", ASKED, RANGE, x -> x.message(0, 2, 1001, 1, 0, 60));
        refused("no kind", ASKED, RANGE, x -> x.message(0, 2, 9, 0, 0, 60));
        refused("no time", ASKED, RANGE, x -> x.message(0, 2, 9, 1, 0, 9));
        refused("no due time", ASKED, RANGE, x -> x.message(0, 2, 9, 4, 60, 60));
        refused("no number, nobody holds it", NEW, RANGE, x -> x.message(0, 1, -1, 1, 0, 60));
    }

    @Of(P05S2)
    private static void rangeComesBeforeDoubleAndState() {
        refused("no kind, a number that was taken", CONDITIONAL, RANGE, x -> x.message(0, 1, 4, 6, 0, 60));
        refused("no due time, a number that was taken", CONDITIONAL, RANGE, x -> x.message(0, 1, 4, 4, 60, 60));
        refused("no time, a number that was taken", CONDITIONAL, RANGE, x -> x.message(0, 1, 4, 1, 0, 19));
        refused("no due time, not in this state", SHIPPED, RANGE, x -> x.message(0, 1, 9, 4, 60, 60));
    }

    @Of(P05S2)
    private static void wrongComesBeforeDoubleAndState() {
        InterRequest x = inState(ASKED);
        x.message(0, 1, 4, 2, 0, 20);
        due("a number that was taken, of one that is through", x.message(0, 1, 4, 2, 0, 20), WRONG);
        due("it is no double", x.about(0, 5), 0);
        refused("not in this state either", SHIPPED, WRONG, y -> y.message(0, 2, 9, 1, 0, 60));
        refused("a number that was taken, of one that is DONE", DONE, WRONG, y -> y.message(0, 1, 5, 5, 0, 60));
    }

    @Of(P05S2)
    private static void doubleComesBeforeState() {
        InterRequest x = inState(SHIPPED);
        due("the number again, not in this state", x.message(0, 1, 4, 1, 0, 60), DOUBLE);
        due("it is counted", x.about(0, 5), 1);
        due("a number above, not in this state", x.message(0, 1, 5, 1, 0, 60), STATE);
        due("it is not counted", x.about(0, 5), 1);
    }

    @Of(P05S3)
    private static void aNumberThatAnsweredStateMayComeAgain() {
        InterRequest x = inState(ASKED_WILL_SUPPLY);
        due("CONDITION of WILL SUPPLY", x.message(0, 1, 700, 3, 0, 21), STATE);
        due("the greatest that was taken", x.told(0, 0, 2), 4);
        due("the same number, taken now", x.message(0, 1, 700, 4, 99, 21), SHIPPED);
        due("the greatest that was taken then", x.told(0, 0, 2), 700);
    }

    @Of(P05S3)
    private static void aNumberBelowOneThatAnsweredStateIsNoDouble() {
        InterRequest x = inState(ASKED_WILL_SUPPLY);
        due("number 1000", x.message(0, 1, 1000, 1, 0, 21), STATE);
        due("number 5", x.message(0, 1, 5, 2, 0, 21), ASKED);
        due("doubles", x.about(0, 5), 0);
    }

    @Of(P05S3)
    private static void aNumberThatAnsweredRangeIsNotTaken() {
        InterRequest x = inState(ASKED);
        due("SHIP due at t", x.message(0, 1, 9, 4, 60, 60), RANGE);
        due("no kind", x.message(0, 1, 9, 6, 0, 60), RANGE);
        due("the time back", x.message(0, 1, 9, 1, 0, 9), RANGE);
        due("the greatest that was taken", x.told(0, 0, 2), -1);
        due("the same number, taken now", x.message(0, 1, 9, 4, 61, 60), SHIPPED);
    }

    @Of(P05S3)
    private static void aNumberThatAnsweredWrongIsNotTaken() {
        InterRequest x = inState(ASKED);
        due("of the next lender", x.message(0, 2, 9, 1, 0, 20), WRONG);
        due("of the first", x.message(0, 1, 9, 2, 0, 20), ASKED);
        due("of the next lender, taken now", x.message(0, 2, 9, 1, 0, 20), ASKED);
    }

    @Of(P05S3)
    private static void aDoubleDoesNotLowerTheGreatest() {
        InterRequest x = inState(ASKED_WILL_SUPPLY);
        due("a lower number", x.message(0, 1, 2, 2, 0, 20), DOUBLE);
        due("the greatest that was taken", x.told(0, 0, 2), 4);
        due("a number between", x.message(0, 1, 3, 2, 0, 20), DOUBLE);
    }

    // ---- Promise 6: condition

    @Of(P06S1)
    private static void conditionAnswersTheRequestersState() {
        due("yes", inState(CONDITIONAL).condition(0, true, 20), ASKED);
        due("no", inState(CONDITIONAL).condition(0, false, 20), ASKED);
        InterRequest x = withString(2, 1);
        x.send(0, 0);
        x.message(0, 1, 0, 3, 0, 0);
        due("no, and no lender is left", x.condition(0, false, 0), UNFILLED);
    }

    @Of(P06S2)
    private static void conditionOfNoSuchRequest() {
        noSuchRequest(2);
        refused("no, of request 1", CONDITIONAL, NONE, x -> x.condition(1, false, 60));
    }

    @Of(P06S2)
    private static void conditionAtNoSuchTime() {
        noSuchTime(2);
        refused("no, one second back", CONDITIONAL, RANGE, x -> x.condition(0, false, 19));
    }

    @Of(P06S2)
    private static void conditionOfOneThatIsNotConditional() {
        onlyInStates(2, CONDITIONAL);
        for (int state : new int[] {NEW, ASKED, SHIPPED, DONE, ASKED_WILL_SUPPLY}) {
            refused("no", state, STATE, x -> x.condition(0, false, 60));
        }
    }

    @Of(P06S2)
    private static void aConditionIsAnsweredOnce() {
        InterRequest x = inState(CONDITIONAL);
        x.condition(0, true, 20);
        due("again", x.condition(0, false, 20), STATE);
        due("the lender", x.told(0, 0, 1), 1);
    }

    // ---- Promise 7: received

    @Of(P07S1)
    private static void receivedAnswersReceived() {
        InterRequest x = inState(SHIPPED);
        due("received", x.received(0, 20), RECEIVED);
        due("the requester's state", x.about(0, 0), RECEIVED);
        due("behind the due time, too", inState(SHIPPED).received(0, DUE + 1), RECEIVED);
    }

    @Of(P07S2)
    private static void receivedOfNoSuchRequest() {
        noSuchRequest(3);
    }

    @Of(P07S2)
    private static void receivedAtNoSuchTime() {
        noSuchTime(3);
    }

    @Of(P07S2)
    private static void receivedOfOneThatIsNotShipped() {
        onlyInStates(3, SHIPPED);
        refused("received", ASKED_WILL_SUPPLY, STATE, x -> x.received(0, 60));
    }

    // ---- Promise 8: back

    private static void goesBack(int t, int want) {
        InterRequest x = inState(RECEIVED);
        due("back at " + t, x.back(0, t), want);
        due("RETURNED", x.about(0, 0), RETURNED);
    }

    @Of(P08S1)
    private static void backBeforeTheDueTimeIs1() {
        goesBack(30, 1);
        goesBack(DUE - 1, 1);
    }

    @Of(P08S1)
    private static void backAtTheDueTimeIs1() {
        goesBack(DUE, 1);
    }

    @Of(P08S1)
    private static void backBehindTheDueTimeIs0() {
        goesBack(DUE + 1, 0);
        goesBack(LAST_TIME, 0);
    }

    @Of(P08S1)
    private static void whatIsDueAtTheLastTimeIsNeverLate() {
        InterRequest x = inState(ASKED);
        x.message(0, 1, 0, 4, LAST_TIME, 20);
        x.received(0, 20);
        due("back at the last time", x.back(0, LAST_TIME), 1);
    }

    @Of(P08S2)
    private static void backOfNoSuchRequest() {
        noSuchRequest(4);
    }

    @Of(P08S2)
    private static void backAtNoSuchTime() {
        noSuchTime(4);
    }

    @Of(P08S2)
    private static void backOfOneThatIsNotReceived() {
        onlyInStates(4, RECEIVED);
    }

    // ---- Promise 9: cancel

    @Of(P09S1)
    private static void cancelAnswers1() {
        for (int state : new int[] {NEW, ASKED, CONDITIONAL, ASKED_WILL_SUPPLY}) {
            InterRequest x = inState(state);
            due("cancel in " + state, x.cancel(0, 25), 1);
            due("CANCELLED", x.about(0, 0), CANCELLED);
            due("when", x.about(0, 8), 25);
        }
    }

    @Of(P09S1)
    private static void aNewOneWithNoLendersIsCancelled() {
        InterRequest x = withString(1);
        due("cancel", x.cancel(0, 0), 1);
        due("CANCELLED", x.about(0, 0), CANCELLED);
        due("when", x.about(0, 8), 0);
    }

    @Of(P09S2)
    private static void cancelOfNoSuchRequest() {
        noSuchRequest(5);
    }

    @Of(P09S2)
    private static void cancelAtNoSuchTime() {
        noSuchTime(5);
    }

    @Of(P09S2)
    private static void cancelOfOneThatIsShippedOrEnded() {
        onlyInStates(5, NEW, ASKED, CONDITIONAL);
    }

    // ---- Promise 10: waits

    @Of(P10S1)
    private static void waitsWithoutRequestsIs0() {
        due("waits", new InterRequest(1).waits(LAST_TIME), 0);
    }

    @Of(P10S1)
    private static void waitsOfAll100Requests() {
        InterRequest x = new InterRequest(2);
        for (int r = 0; r < 100; r++) {
            x.ask(0, r);
            x.lender(r, 1);
            x.send(r, 0);
        }
        due("after just SPAN", x.waits(DAY), 0);
        due("a second later", x.waits(DAY + 1), 100);
        due("the first", x.about(0, 0), UNFILLED);
        due("the last", x.about(99, 0), UNFILLED);
        due("PASSED of house 1", x.statistics(1, 5), 100);
        due("again", x.waits(DAY + 1), 0);
    }

    @Of(P10S1)
    private static void waitsPassesOneLenderOfARequestOnce() {
        InterRequest x = inState(ASKED);
        due("waits", x.waits(LAST_TIME), 1);
        due("the next one has it", x.about(0, 1), 2);
        due("again at the same time", x.waits(LAST_TIME), 0);
        due("the next one still has it", x.about(0, 1), 2);
    }

    @Of(P10S1)
    private static void waitsAnswersHowManyThisTime() {
        InterRequest x = inState(ASKED);
        due("the first", x.waits(100000), 1);
        due("the second", x.waits(200000), 1);
        due("the third", x.waits(300000), 1);
        due("nobody is left", x.waits(400000), 0);
        due("when it was UNFILLED", x.about(0, 8), 300000);
    }

    @Of(P10S1)
    private static void waitsLooksBehindRequestsThatDoNotWait() {
        InterRequest x = inState(CANCELLED);
        x.ask(0, 0);
        x.ask(1, 0);
        x.lender(2, 0);
        x.send(2, 20);
        x.ask(2, 0);
        x.lender(3, 0);
        x.send(3, 21);
        due("the third alone", x.waits(21 + DAY), 1);
        due("the third", x.about(2, 0), UNFILLED);
        due("the fourth", x.about(3, 0), ASKED);
        due("the fourth, a second later", x.waits(22 + DAY), 1);
    }

    @Of(P10S2)
    private static void waitsAtNoSuchTime() {
        noSuchTime(6);
        refused("waits that would pass one", ASKED, RANGE, x -> x.waits(LAST_TIME + 1));
    }

    // ---- Promise 11: span

    @Of(P11S1)
    private static void theShortestSpanIs1() {
        InterRequest x = inState(ASKED);
        due("span(1)", x.span(1), 1);
        passesBehind(x, 10, 1);
    }

    @Of(P11S1)
    private static void theLongestSpanIs10000000() {
        InterRequest x = inState(ASKED);
        due("span(10000000)", x.span(10000000), 1);
        passesBehind(x, 10, 10000000);
    }

    @Of(P11S1)
    private static void theLastSpanIsWhatCounts() {
        InterRequest x = inState(ASKED);
        due("span(5)", x.span(5), 1);
        due("span(500)", x.span(500), 1);
        passesBehind(x, 10, 500);
    }

    @Of(P11S2)
    private static void noSuchSpan() {
        for (int bad : new int[] {0, -1, MIN, 10000001, MAX}) {
            refused("span(" + bad + ")", ASKED, RANGE, x -> x.span(bad));
            InterRequest y = inState(ASKED);
            y.span(300);
            due("span(" + bad + ")", y.span(bad), RANGE);
            passesBehind(y, 10, 300);
        }
    }

    // ---- Promise 12: about

    private static void aboutInStates(int what, int... want) {
        for (int state = NEW; state <= CANCELLED; state++) {
            due("about(0, " + what + ") in state " + state, inState(state).about(0, what), want[state]);
        }
    }

    @Of(P12S1)
    private static void about1IsWhoHoldsItOrMinus1() {
        aboutInStates(1, -1, 1, 1, 1, 1, 1, 1, -1, -1);
    }

    @Of(P12S1)
    private static void about2IsHowManyLendersFrom0To8() {
        due("none", withString(9).about(0, 2), 0);
        due("one", withString(9, 8).about(0, 2), 1);
        due("eight", withString(9, 1, 2, 3, 4, 5, 6, 7, 8).about(0, 2), 8);
        aboutInStates(2, 3, 3, 3, 3, 3, 3, 3, 3, 3);
    }

    @Of(P12S1)
    private static void about3And4AreTheItemAndTheHouse() {
        InterRequest x = new InterRequest(30);
        x.ask(29, 100000);
        x.ask(0, 0);
        due("the item", x.about(0, 3), 100000);
        due("the house", x.about(0, 4), 29);
        due("the other's item", x.about(1, 3), 0);
        due("the other's house", x.about(1, 4), 0);
        aboutInStates(3, 7, 7, 7, 7, 7, 7, 7, 7, 7);
        aboutInStates(4, 0, 0, 0, 0, 0, 0, 0, 0, 0);
    }

    @Of(P12S1)
    private static void about5IsTheDoublesOfAllItsLenders() {
        InterRequest x = inState(ASKED_WILL_SUPPLY);
        due("none yet", x.about(0, 5), 0);
        x.message(0, 1, 4, 1, 0, 20);
        x.message(0, 1, 5, 2, 0, 20);
        x.message(0, 2, 0, 1, 0, 20);
        x.message(0, 2, 0, 1, 0, 20);
        due("one of each", x.about(0, 5), 2);
        x.cancel(0, 20);
        due("they stay", x.about(0, 5), 2);
    }

    @Of(P12S1)
    private static void about6IsTheDueTimeOrMinus1() {
        aboutInStates(6, -1, -1, -1, DUE, DUE, DUE, DUE, -1, -1);
    }

    @Of(P12S1)
    private static void about7IsWhenItWasFirstAskedOrMinus1() {
        aboutInStates(7, -1, 10, 10, 10, 10, 10, 10, 10, 10);
    }

    @Of(P12S1)
    private static void about7StaysWhenItIsAskedAgain() {
        InterRequest x = inState(ASKED);
        x.message(0, 1, 0, 2, 0, 11);
        due("behind NOT SUPPLIED", x.about(0, 7), 10);
        x.message(0, 2, 0, 3, 0, 12);
        x.condition(0, true, 13);
        due("behind a yes", x.about(0, 7), 10);
        x.message(0, 2, 1, 3, 0, 14);
        x.condition(0, false, 15);
        due("behind a no", x.about(0, 7), 10);
        x.waits(LAST_TIME);
        due("behind a time out", x.about(0, 7), 10);
    }

    @Of(P12S1)
    private static void about7MayBe0() {
        InterRequest x = inState(ASKED, ALL_AT_0);
        due("asked at 0", x.about(0, 7), 0);
        x.message(0, 1, 0, 2, 0, 5);
        due("and it stays", x.about(0, 7), 0);
    }

    @Of(P12S1)
    private static void about7IsMinus1WhereItWasNeverAsked() {
        InterRequest x = inState(NEW);
        x.cancel(0, 5);
        due("cancelled while NEW", x.about(0, 7), -1);
        InterRequest y = withString(2);
        y.send(0, 5);
        due("sent with no lenders", y.about(0, 7), -1);
    }

    @Of(P12S1)
    private static void about8IsWhenItEndedOrMinus1() {
        aboutInStates(8, -1, -1, -1, -1, -1, -1, 45, 20, 20);
    }

    @Of(P12S1)
    private static void about8StaysBehindRefusedCalls() {
        for (int state = DONE; state <= CANCELLED; state++) {
            int end = inState(state).about(0, 8);
            InterRequest x = inState(state);
            x.cancel(0, 60);
            x.send(0, 60);
            x.message(0, 1, 9, 5, 0, 60);
            x.waits(LAST_TIME);
            due("the end in state " + state, x.about(0, 8), end);
        }
    }

    @Of(P12S2)
    private static void aboutOfNoSuchRequest() {
        for (int bad : NO_REQUESTS) {
            dueNoSuch("about(" + bad + ", 0)", () -> inState(DONE).about(bad, 0));
        }
        dueNoSuch("about(0, 0) of a new object", () -> new InterRequest(30).about(0, 0));
        dueNoSuch("about(100, 0) of a full one", () -> full().about(100, 0));
    }

    @Of(P12S2)
    private static void aboutAnotherWhat() {
        due("what 0", inState(DONE).about(0, 0), DONE);
        due("what 8", inState(DONE).about(0, 8), 45);
        for (int bad : new int[] {-1, 9, MIN, MAX}) {
            dueNoSuch("about(0, " + bad + ")", () -> inState(DONE).about(0, bad));
        }
    }

    // ---- Promise 13: told

    @Of(P13S1)
    private static void told0IsTheHouse() {
        InterRequest x = withString(30, 29, 1, 15);
        due("the first", x.told(0, 0, 0), 29);
        due("the second", x.told(0, 1, 0), 1);
        due("the last", x.told(0, 2, 0), 15);
    }

    @Of(P13S1)
    private static void told1IsItsState() {
        InterRequest x = inState(ASKED);
        x.message(0, 1, 0, 2, 0, 20);
        x.waits(200000);
        due("the first", x.told(0, 0, 1), 6);
        due("the second", x.told(0, 1, 1), 7);
        due("the third", x.told(0, 2, 1), 1);
    }

    @Of(P13S1)
    private static void told2IsTheGreatestNumberOrMinus1() {
        InterRequest x = inState(ASKED);
        due("none yet", x.told(0, 0, 2), -1);
        x.message(0, 1, 0, 1, 0, 20);
        due("number 0", x.told(0, 0, 2), 0);
        x.message(0, 1, 1000, 2, 0, 20);
        due("number 1000", x.told(0, 0, 2), 1000);
        due("of the next one", x.told(0, 1, 2), -1);
    }

    @Of(P13S1)
    private static void toldOfNoSuchRequest() {
        for (int bad : NO_REQUESTS) {
            dueNoSuch("told(" + bad + ", 0, 0)", () -> inState(DONE).told(bad, 0, 0));
        }
    }

    @Of(P13S1)
    private static void toldOfNoSuchLender() {
        for (int bad : new int[] {-1, 3, 7, 8, MIN, MAX}) {
            dueNoSuch("told(0, " + bad + ", 0)", () -> inState(DONE).told(0, bad, 0));
        }
        dueNoSuch("the first of none", () -> withString(2).told(0, 0, 0));
        InterRequest x = withString(9, 1, 2, 3, 4, 5, 6, 7, 8);
        due("the eighth", x.told(0, 7, 0), 8);
        dueNoSuch("the ninth", () -> x.told(0, 8, 0));
    }

    @Of(P13S1)
    private static void toldAnotherWhat() {
        for (int bad : new int[] {-1, 3, MIN, MAX}) {
            dueNoSuch("told(0, 0, " + bad + ")", () -> inState(DONE).told(0, 0, bad));
        }
    }

    // ---- Promise 14: statistics

    private static void statisticsInStates(int house, int which, int... want) {
        for (int state = NEW; state <= CANCELLED; state++) {
            int got = inState(state).statistics(house, which);
            due("statistics(" + house + ", " + which + ") in state " + state, got, want[state]);
        }
    }

    @Of(P14S1)
    private static void statistics0IsRequestsThatItAsked() {
        statisticsInStates(0, 0, 1, 1, 1, 1, 1, 1, 1, 1, 1);
        statisticsInStates(1, 0, 0, 0, 0, 0, 0, 0, 0, 0, 0);
        due("all that may be", full().statistics(0, 0), 100);
    }

    @Of(P14S1)
    private static void statistics1IsTheDoneOnesOfThese() {
        statisticsInStates(0, 1, 0, 0, 0, 0, 0, 0, 1, 0, 0);
        statisticsInStates(1, 1, 0, 0, 0, 0, 0, 0, 0, 0, 0);
    }

    @Of(P14S1)
    private static void statistics2IsTheUnfilledOnesOfThese() {
        statisticsInStates(0, 2, 0, 0, 0, 0, 0, 0, 0, 1, 0);
        statisticsInStates(1, 2, 0, 0, 0, 0, 0, 0, 0, 0, 0);
    }

    @Of(P14S1)
    private static void statistics3IsShippedOnesAndDoneOnesToo() {
        statisticsInStates(1, 3, 0, 0, 0, 1, 1, 1, 1, 0, 0);
        statisticsInStates(2, 3, 0, 0, 0, 0, 0, 0, 0, 0, 0);
        InterRequest x = inState(DONE);
        x.ask(2, 0);
        x.lender(1, 1);
        x.send(1, 60);
        x.message(1, 1, 0, 4, 99, 60);
        due("one DONE, one SHIPPED", x.statistics(1, 3), 2);
    }

    @Of(P14S1)
    private static void statistics4IsNotSuppliedOnes() {
        statisticsInStates(1, 4, 0, 0, 0, 0, 0, 0, 0, 1, 0);
        statisticsInStates(3, 4, 0, 0, 0, 0, 0, 0, 0, 1, 0);
        InterRequest x = inState(CONDITIONAL);
        x.condition(0, false, 20);
        due("by a no", x.statistics(1, 4), 1);
    }

    @Of(P14S1)
    private static void statistics5IsPassedOnes() {
        statisticsInStates(1, 5, 0, 0, 0, 0, 0, 0, 0, 0, 0);
        InterRequest x = inState(ASKED);
        x.waits(LAST_TIME);
        due("PASSED", x.statistics(1, 5), 1);
        due("of the next one", x.statistics(2, 5), 0);
        due("NOT SUPPLIED", x.statistics(1, 4), 0);
    }

    @Of(P14S1)
    private static void statisticsOfNoSuchHouse() {
        for (int bad : new int[] {-1, 5, 29, 30, MIN, MAX}) {
            for (int which = 0; which <= 5; which++) {
                due("statistics(" + bad + ", " + which + ")", inState(DONE).statistics(bad, which), NONE);
            }
        }
        due("the last house", inState(DONE).statistics(4, 0), 0);
    }

    @Of(P14S1)
    private static void statisticsOfNoSuchWhich() {
        for (int bad : new int[] {-1, 6, MIN, MAX}) {
            due("statistics(0, " + bad + ")", inState(DONE).statistics(0, bad), NONE);
        }
    }

    // ---- Promise 15: overdue

    @Of(P15S1)
    private static void atItsDueTimeItIsNotOverdue() {
        dueNoSuch("at the due time", () -> inState(RECEIVED).overdue(DUE, 0));
        due("a second later", inState(RECEIVED).overdue(DUE + 1, 0), 0);
    }

    @Of(P15S1)
    private static void onlyWhatIsReceivedIsOverdue() {
        for (int state = NEW; state <= CANCELLED; state++) {
            InterRequest x = inState(state);
            if (state == RECEIVED) {
                due("in state " + state, x.overdue(LAST_TIME, 0), 0);
            } else {
                dueNoSuch("in state " + state, () -> x.overdue(LAST_TIME, 0));
            }
        }
    }

    @Of(P15S1)
    private static void theTimeMayLieBack() {
        InterRequest x = inState(RECEIVED);
        x.waits(5000);
        due("a time before the latest", x.overdue(DUE + 1, 0), 0);
        dueNoSuch("a time before the latest, not overdue then", () -> x.overdue(DUE, 0));
        dueNoSuch("time 0", () -> x.overdue(0, 0));
        due("the latest time stays", x.waits(4999), RANGE);
    }

    /** Requests 0 to 4, with the due times 100, 60, 80, 60 and 40, all but the fourth RECEIVED. */
    private static InterRequest five() {
        InterRequest x = new InterRequest(2);
        int[] dues = {100, 60, 80, 60, 40};
        for (int r = 0; r < 5; r++) {
            x.ask(0, r);
            x.lender(r, 1);
            x.send(r, 5);
            x.message(r, 1, 0, 4, dues[r], 5);
            if (r != 3) {
                x.received(r, 5);
            }
        }
        return x;
    }

    @Of(P15S1)
    private static void overdueOnesAreCountedByNumbersFrom0On() {
        InterRequest x = five();
        int[] all = {0, 1, 2, 4};
        for (int i = 0; i < all.length; i++) {
            due("the i-th at 101", x.overdue(101, i), all[i]);
        }
        due("the first at 81", x.overdue(81, 0), 1);
        due("the last at 81", x.overdue(81, 2), 4);
        due("the only one at 41", x.overdue(41, 0), 4);
    }

    @Of(P15S1)
    private static void thereIsNoIthBehindTheLast() {
        InterRequest x = five();
        dueNoSuch("the fifth at 101", () -> x.overdue(101, 4));
        dueNoSuch("the fourth at 100", () -> x.overdue(100, 3));
        dueNoSuch("the second at 41", () -> x.overdue(41, 1));
        dueNoSuch("the first at 40", () -> x.overdue(40, 0));
        for (int bad : new int[] {-1, 99, 100, MIN, MAX}) {
            dueNoSuch("i " + bad, () -> x.overdue(101, bad));
        }
    }

    @Of(P15S1)
    private static void beforeAllTimesNothingIsOverdue() {
        dueNoSuch("at -1", () -> five().overdue(-1, 0));
        dueNoSuch("at MIN", () -> five().overdue(MIN, 0));
    }

    @Of(P15S1)
    private static void whatIsDueAtTheLastTimeIsNeverOverdue() {
        InterRequest x = inState(ASKED);
        x.message(0, 1, 0, 4, LAST_TIME, 20);
        x.received(0, 20);
        dueNoSuch("at the last time", () -> x.overdue(LAST_TIME, 0));
    }

    @Of(P15S1)
    private static void all100RequestsMayBeOverdue() {
        InterRequest x = new InterRequest(2);
        for (int r = 0; r < 100; r++) {
            x.ask(0, r);
            x.lender(r, 1);
            x.send(r, 0);
            x.message(r, 1, 0, 4, 9, 0);
            x.received(r, 0);
        }
        due("the first", x.overdue(10, 0), 0);
        due("the last", x.overdue(10, 99), 99);
        dueNoSuch("one more", () -> x.overdue(10, 100));
    }

    // ---- The run

    /** All sentences of the list above. */
    private static TreeSet<String> sentences() throws IllegalAccessException {
        TreeSet<String> all = new TreeSet<>();
        for (Field f : InterRequestBoundaries.class.getDeclaredFields()) {
            if (f.getName().matches("WHAT_\\d+|TERMS_\\d+|P\\d+S\\d+")) {
                all.add((String) f.get(null));
            }
        }
        return all;
    }

    private static void run(Method test) throws IllegalAccessException {
        running = test.getName() + " (" + test.getAnnotation(Of.class).value() + ")";
        try {
            test.invoke(null);
        } catch (InvocationTargetException e) {
            fault("threw " + e.getCause());
        }
    }

    public static void main(String[] args) throws IllegalAccessException {
        Method[] methods = InterRequestBoundaries.class.getDeclaredMethods();
        Arrays.sort(methods, Comparator.comparing(Method::getName));
        TreeSet<String> untested = sentences();
        int tests = 0;
        for (Method m : methods) {
            if (m.isAnnotationPresent(Of.class)) {
                tests++;
                untested.remove(m.getAnnotation(Of.class).value());
                run(m);
            }
        }
        running = "the list of sentences";
        for (String sentence : untested) {
            fault("no test is of " + sentence);
        }
        System.out.println(tests + " boundary tests, " + (wrong == 0 ? "all answers are as due" : wrong + " answers are not as due"));
        if (wrong != 0) {
            System.exit(1);
        }
    }
}
