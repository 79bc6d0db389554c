import java.util.NoSuchElementException;

/** One method for each promise of the document, with its edges and wrong inputs. */
public final class InterRequestPromises {
    private static final int NONE = InterRequest.NONE;
    private static final int RANGE = InterRequest.RANGE;
    private static final int STATE = InterRequest.STATE;
    private static final int FULL = InterRequest.FULL;
    private static final int WRONG = InterRequest.WRONG;
    private static final int DOUBLE = InterRequest.DOUBLE;
    private static final int LAST_TIME = 1000000000;
    private static final int MIN = Integer.MIN_VALUE;
    private static final int MAX = Integer.MAX_VALUE;

    private static int wrong = 0;

    private interface Call {
        int answer();
    }

    private static void due(String what, int got, int want) {
        if (got != want) {
            wrong++;
            System.out.println(what + " answered " + got + ", due is " + want);
        }
    }

    private static void dueNoSuch(String what, Call call) {
        try {
            int got = call.answer();
            wrong++;
            System.out.println(what + " answered " + got + ", due is NoSuchElementException");
        } catch (NoSuchElementException e) {
            // as due
        }
    }

    /** Five houses; request 0 of house 0 with the lenders 1, 2, 3, not sent. */
    private static InterRequest fresh() {
        InterRequest x = new InterRequest(5);
        x.ask(0, 7);
        x.lender(0, 1);
        x.lender(0, 2);
        x.lender(0, 3);
        return x;
    }

    /** The same, sent at 10: house 1 holds it. */
    private static InterRequest sent() {
        InterRequest x = fresh();
        x.send(0, 10);
        return x;
    }

    /** The same, with a condition of house 1, its message 4, at 20. */
    private static InterRequest conditional() {
        InterRequest x = sent();
        x.message(0, 1, 4, 3, 0, 20);
        return x;
    }

    /** The same, shipped by house 1, its message 4, at 20 with the due time 50. */
    private static InterRequest shipped() {
        InterRequest x = sent();
        x.message(0, 1, 4, 4, 50, 20);
        return x;
    }

    private static InterRequest receivedOne() {
        InterRequest x = shipped();
        x.received(0, 30);
        return x;
    }

    private static InterRequest returned() {
        InterRequest x = receivedOne();
        x.back(0, 40);
        return x;
    }

    private static InterRequest done() {
        InterRequest x = returned();
        x.message(0, 1, 5, 5, 0, 45);
        return x;
    }

    private static InterRequest unfilled() {
        InterRequest x = sent();
        x.message(0, 1, 0, 2, 0, 11);
        x.message(0, 2, 0, 2, 0, 12);
        x.message(0, 3, 0, 2, 0, 13);
        return x;
    }

    private static InterRequest cancelled() {
        InterRequest x = sent();
        x.cancel(0, 20);
        return x;
    }

    /** An object whose request 0 is in the requester's state. */
    private static InterRequest inState(int state) {
        switch (state) {
            case 0: return fresh();
            case 1: return sent();
            case 2: return conditional();
            case 3: return shipped();
            case 4: return receivedOne();
            case 5: return returned();
            case 6: return done();
            case 7: return unfilled();
            default: return cancelled();
        }
    }

    private static void everyState() {
        for (int state = 0; state <= 8; state++) {
            due("state of inState(" + state + ")", inState(state).about(0, 0), state);
        }
    }

    private static void promise1New() {
        int[][] rows = {{1, 1}, {2, 2}, {29, 29}, {30, 30}, {31, 30}, {0, 1}, {-1, 1}, {MIN, 1}, {MAX, 30}};
        for (int[] row : rows) {
            InterRequest x = new InterRequest(row[0]);
            String name = "InterRequest(" + row[0] + ")";
            due(name + " last house", x.statistics(row[1] - 1, 0), 0);
            due(name + " house behind the last", x.statistics(row[1], 0), NONE);
            due(name + " ask of the house behind the last", x.ask(row[1], 0), NONE);
            dueNoSuch(name + " about", () -> x.about(0, 0));
            dueNoSuch(name + " told", () -> x.told(0, 0, 0));
            dueNoSuch(name + " overdue", () -> x.overdue(LAST_TIME, 0));
            due(name + " send", x.send(0, 0), NONE);
            due(name + " waits", x.waits(0), 0);
            due(name + " first request", x.ask(row[1] - 1, 0), 0);
        }
    }

    private static void promise2Ask() {
        InterRequest x = new InterRequest(3);
        due("ask house -1", x.ask(-1, 0), NONE);
        due("ask house 3", x.ask(3, 0), NONE);
        due("ask house MIN", x.ask(MIN, 0), NONE);
        due("ask house MAX", x.ask(MAX, 0), NONE);
        due("ask no house before item", x.ask(3, -1), NONE);
        due("ask item -1", x.ask(0, -1), RANGE);
        due("ask item 100001", x.ask(0, 100001), RANGE);
        due("ask item 0", x.ask(2, 0), 0);
        due("ask item 100000", x.ask(1, 100000), 1);
        due("ask is NEW", x.about(1, 0), 0);
        due("ask has no holder", x.about(1, 1), -1);
        due("ask has no lenders", x.about(1, 2), 0);
        due("ask keeps the item", x.about(1, 3), 100000);
        due("ask keeps the house", x.about(1, 4), 1);
        due("ask has no doubles", x.about(1, 5), 0);
        due("ask has no due time", x.about(1, 6), -1);
        due("ask was not asked", x.about(1, 7), -1);
        due("ask has not ended", x.about(1, 8), -1);
        for (int n = 2; n < 100; n++) {
            due("ask number " + n, x.ask(n % 3, n), n);
        }
        due("ask 101st", x.ask(0, 5), FULL);
        due("ask 101st no house", x.ask(3, 5), NONE);
        due("ask 101st item", x.ask(0, 100001), RANGE);
        due("the last one's item", x.about(99, 3), 99);
        dueNoSuch("about 100", () -> x.about(100, 0));
        due("lender of the last one", x.lender(99, 1), 1);
        due("send of 100", x.send(100, 0), NONE);
    }

    private static void promise3Lender() {
        InterRequest x = new InterRequest(12);
        due("lender without a request", x.lender(0, 1), NONE);
        x.ask(4, 7);
        due("lender request -1", x.lender(-1, 1), NONE);
        due("lender request 1", x.lender(1, 1), NONE);
        due("lender request MAX", x.lender(MAX, 1), NONE);
        due("lender request MIN", x.lender(MIN, 1), NONE);
        due("lender house -1", x.lender(0, -1), NONE);
        due("lender house 12", x.lender(0, 12), NONE);
        due("lender requester", x.lender(0, 4), STATE);
        due("lender 11", x.lender(0, 11), 1);
        due("lender 11 again", x.lender(0, 11), STATE);
        due("lender 0", x.lender(0, 0), 2);
        due("lender 0 again", x.lender(0, 0), STATE);
        due("lender 11 once more", x.lender(0, 11), STATE);
        int[] more = {1, 2, 3, 5, 6, 7};
        for (int i = 0; i < more.length; i++) {
            due("lender " + more[i], x.lender(0, more[i]), i + 3);
        }
        due("lender ninth", x.lender(0, 8), FULL);
        due("lender ninth that is in it", x.lender(0, 7), STATE);
        due("lender ninth requester", x.lender(0, 4), STATE);
        due("lender ninth no house", x.lender(0, 12), NONE);
        due("how many lenders", x.about(0, 2), 8);
        due("first lender", x.told(0, 0, 0), 11);
        due("second lender", x.told(0, 1, 0), 0);
        due("last lender", x.told(0, 7, 0), 7);
        x.ask(11, 7);
        due("a house lends to several", x.lender(1, 0), 1);
        x.send(0, 0);
        due("lender of a full one that is sent", x.lender(0, 8), STATE);
        for (int state = 1; state <= 8; state++) {
            InterRequest y = inState(state);
            due("lender in state " + state, y.lender(0, 4), STATE);
            due("lender in state, no house " + state, y.lender(0, 5), NONE);
            due("lenders in state " + state, y.about(0, 2), 3);
        }
    }

    private static void promise4Send() {
        InterRequest x = fresh();
        due("send request -1", x.send(-1, 0), NONE);
        due("send request 1", x.send(1, -1), NONE);
        due("send time -1", x.send(0, -1), RANGE);
        due("send time behind the last", x.send(0, LAST_TIME + 1), RANGE);
        due("send refused: still NEW", x.about(0, 0), 0);
        due("send", x.send(0, 0), 1);
        due("send: ASKED", x.about(0, 0), 1);
        due("send: holder", x.about(0, 1), 1);
        due("send: first asked", x.about(0, 7), 0);
        due("send: not ended", x.about(0, 8), -1);
        due("send: lender IN PROCESS", x.told(0, 0, 1), 1);
        due("send: second lender none yet", x.told(0, 1, 1), 0);
        due("send again", x.send(0, 0), STATE);
        for (int state = 1; state <= 8; state++) {
            InterRequest y = inState(state);
            due("send in state " + state, y.send(0, 100), STATE);
            due("send in state, time back " + state, y.send(0, 9), RANGE);
            due("send in state changes nothing " + state, y.about(0, 0), state);
        }
        InterRequest z = new InterRequest(2);
        z.ask(0, 1);
        due("send with no lenders", z.send(0, LAST_TIME), 100);
        due("send with no lenders: UNFILLED", z.about(0, 0), 7);
        due("send with no lenders: holder", z.about(0, 1), -1);
        due("send with no lenders: never ASKED", z.about(0, 7), -1);
        due("send with no lenders: ended", z.about(0, 8), LAST_TIME);
        due("send with no lenders counts as a time", z.waits(LAST_TIME - 1), RANGE);
    }

    private static void promise5Arguments() {
        InterRequest x = sent();
        due("message request -1", x.message(-1, 1, 0, 1, 0, 10), NONE);
        due("message request 1", x.message(1, 1, 0, 1, 0, 10), NONE);
        due("message house -1", x.message(0, -1, 0, 1, 0, 10), NONE);
        due("message house 5", x.message(0, 5, 0, 1, 0, 10), NONE);
        due("message no house before the rest", x.message(0, 5, -1, 0, 0, 9), NONE);
        due("message number -1", x.message(0, 1, -1, 1, 0, 10), RANGE);
        due("message number 1001", x.message(0, 1, 1001, 1, 0, 10), RANGE);
        due("message kind 0", x.message(0, 1, 0, 0, 0, 10), RANGE);
        due("message kind 6", x.message(0, 1, 0, 6, 0, 10), RANGE);
        due("message kind MIN", x.message(0, 1, 0, MIN, 0, 10), RANGE);
        due("message time back", x.message(0, 1, 0, 1, 0, 9), RANGE);
        due("message time too late", x.message(0, 1, 0, 1, 0, LAST_TIME + 1), RANGE);
        due("message SHIP due at t", x.message(0, 1, 0, 4, 10, 10), RANGE);
        due("message SHIP due before t", x.message(0, 1, 0, 4, -1, 10), RANGE);
        due("message SHIP due no time", x.message(0, 1, 0, 4, LAST_TIME + 1, 10), RANGE);
        due("message SHIP at the last time", x.message(0, 1, 0, 4, MAX, LAST_TIME), RANGE);
        due("message range before WRONG", x.message(0, 2, 1001, 1, 0, 10), RANGE);
        due("message due time before WRONG", x.message(0, 2, 0, 4, 10, 10), RANGE);
        due("message of the requester", x.message(0, 0, 0, 1, 0, 10), WRONG);
        due("message of the next lender", x.message(0, 2, 0, 1, 0, 10), WRONG);
        due("message of another house", x.message(0, 4, 0, 1, 0, 10), WRONG);
        due("message refused: no number taken", x.told(0, 0, 2), -1);
        due("message refused: no double", x.about(0, 5), 0);
        due("message refused: not shipped", x.about(0, 6), -1);
        due("message SHIP due at the last time", x.message(0, 1, 0, 4, LAST_TIME, 10), 3);
        due("message SHIP: due time", x.about(0, 6), LAST_TIME);
        InterRequest y = sent();
        due("message SHIP due just behind t", y.message(0, 1, 1000, 4, 11, 10), 3);
        InterRequest z = sent();
        due("message value does not matter", z.message(0, 1, 0, 1, MIN, 10), 1);
        due("message value does not matter, NOT SUPPLIED", z.message(0, 1, 1, 2, MAX, 10), 1);
        due("message value does not matter, CONDITION", z.message(0, 2, 1, 3, MIN, 10), 2);
        due("message no due time by these", z.about(0, 6), -1);
    }

    private static void promise5Doubles() {
        InterRequest x = sent();
        due("first message, number 0", x.message(0, 1, 0, 1, 0, 11), 1);
        due("number 0 again", x.message(0, 1, 0, 2, 0, 500), DOUBLE);
        due("a double is not taken", x.told(0, 0, 1), 3);
        due("a double is counted", x.about(0, 5), 1);
        due("a double's time is not told", x.message(0, 1, 7, 1, 0, 12), STATE);
        due("a refused number is not taken", x.told(0, 0, 2), 0);
        due("the refused number may come again", x.message(0, 1, 7, 4, 90, 12), 3);
        due("the number is taken", x.told(0, 0, 2), 7);
        due("a lower number", x.message(0, 1, 6, 5, 0, 13), DOUBLE);
        due("the same number", x.message(0, 1, 7, 5, 0, 13), DOUBLE);
        due("DOUBLE comes before STATE, a number above does not", x.message(0, 1, 8, 5, 0, 13), STATE);
        due("three doubles", x.about(0, 5), 3);
        due("RANGE comes before DOUBLE", x.message(0, 1, 7, 4, 13, 13), RANGE);
        due("WRONG comes before DOUBLE", x.message(0, 2, 0, 1, 0, 13), WRONG);
        due("three doubles still", x.about(0, 5), 3);
        InterRequest y = sent();
        y.message(0, 1, 1000, 2, 0, 11);
        due("numbers are each lender's own", y.message(0, 2, 0, 1, 0, 12), 1);
        y.ask(3, 8);
        y.lender(1, 1);
        y.send(1, 13);
        due("numbers are each request's own", y.message(1, 1, 0, 1, 0, 13), 1);
        due("doubles are each request's own", y.message(1, 1, 0, 1, 0, 13), DOUBLE);
        due("no doubles of request 0", y.about(0, 5), 0);
        due("a double of request 1", y.about(1, 5), 1);
        due("a refused message of a lender that is through", y.message(0, 1, 1000, 2, 0, 13), WRONG);
        due("no doubles by WRONG", y.about(0, 5), 0);
    }

    /** Which kinds are taken in which state: the answers of the kinds 1 .. 5. */
    private static void promise5States() {
        int[][] want = {
            {WRONG, WRONG, WRONG, WRONG, WRONG},
            {1, 1, 2, 3, STATE},
            {STATE, STATE, STATE, STATE, STATE},
            {STATE, STATE, STATE, STATE, STATE},
            {STATE, STATE, STATE, STATE, STATE},
            {STATE, STATE, STATE, STATE, 6},
            {WRONG, WRONG, WRONG, WRONG, WRONG},
            {WRONG, WRONG, WRONG, WRONG, WRONG},
            {WRONG, WRONG, WRONG, WRONG, WRONG},
        };
        for (int state = 0; state <= 8; state++) {
            for (int kind = 1; kind <= 5; kind++) {
                InterRequest x = inState(state);
                due("message kind " + kind + " in state " + state, x.message(0, 1, 9, kind, 200, 100), want[state][kind - 1]);
                int after = want[state][kind - 1] < 0 ? state : want[state][kind - 1];
                due("state after kind " + kind + " in state " + state, x.about(0, 0), after);
                // 9 was taken only if the message was.
                boolean taken = x.told(0, 0, 2) == 9;
                due("number after kind " + kind + " in state " + state, taken ? 1 : 0, want[state][kind - 1] < 0 ? 0 : 1);
            }
        }
        int[] willSupply = {STATE, 1, STATE, 3, STATE};
        for (int kind = 1; kind <= 5; kind++) {
            InterRequest x = sent();
            due("WILL SUPPLY", x.message(0, 1, 0, 1, 0, 11), 1);
            due("lender WILL SUPPLY", x.told(0, 0, 1), 3);
            due("kind " + kind + " of WILL SUPPLY", x.message(0, 1, 1, kind, 200, 12), willSupply[kind - 1]);
        }
    }

    private static void promise5Effects() {
        InterRequest x = sent();
        due("NOT SUPPLIED asks the next", x.message(0, 1, 3, 2, 0, 15), 1);
        due("NOT SUPPLIED: lender", x.told(0, 0, 1), 6);
        due("NOT SUPPLIED: next lender", x.told(0, 1, 1), 1);
        due("NOT SUPPLIED: third lender", x.told(0, 2, 1), 0);
        due("NOT SUPPLIED: holder", x.about(0, 1), 2);
        due("NOT SUPPLIED: first asked stays", x.about(0, 7), 10);
        due("second one supplies", x.message(0, 2, 3, 1, 0, 16), 1);
        due("and then does not", x.message(0, 2, 4, 2, 0, 16), 1);
        due("the last one neither", x.message(0, 3, 0, 2, 0, 17), 7);
        due("UNFILLED: holder", x.about(0, 1), -1);
        due("UNFILLED: ended", x.about(0, 8), 17);
        due("UNFILLED: last lender", x.told(0, 2, 1), 6);
        InterRequest y = conditional();
        due("CONDITION: lender", y.told(0, 0, 1), 2);
        due("CONDITION: holder", y.about(0, 1), 1);
        InterRequest z = shipped();
        due("SHIP: lender", z.told(0, 0, 1), 4);
        due("SHIP: holder", z.about(0, 1), 1);
        due("SHIP: due time", z.about(0, 6), 50);
        due("SHIP: not ended", z.about(0, 8), -1);
        InterRequest d = done();
        due("CHECKED IN: lender", d.told(0, 0, 1), 5);
        due("CHECKED IN: whoever shipped it", d.about(0, 1), 1);
        due("CHECKED IN: ended", d.about(0, 8), 45);
        due("CHECKED IN: due time stays", d.about(0, 6), 50);
        due("CHECKED IN: other lenders are left alone", d.told(0, 1, 1), 0);
    }

    private static void promise6Condition() {
        InterRequest x = conditional();
        due("condition request -1", x.condition(-1, true, 20), NONE);
        due("condition request 1", x.condition(1, true, -1), NONE);
        due("condition time back", x.condition(0, true, 19), RANGE);
        due("condition time too late", x.condition(0, false, LAST_TIME + 1), RANGE);
        due("condition refused", x.about(0, 0), 2);
        due("condition yes", x.condition(0, true, 20), 1);
        due("condition yes: lender", x.told(0, 0, 1), 1);
        due("condition yes: holder", x.about(0, 1), 1);
        due("condition yes: number stays", x.told(0, 0, 2), 4);
        due("condition again", x.condition(0, true, 20), STATE);
        due("condition yes: first asked stays", x.about(0, 7), 10);
        due("after yes a number that was taken", x.message(0, 1, 4, 1, 0, 20), DOUBLE);
        due("after yes a condition again", x.message(0, 1, 5, 3, 0, 20), 2);
        due("condition no", x.condition(0, false, 21), 1);
        due("condition no: lender", x.told(0, 0, 1), 6);
        due("condition no: next", x.told(0, 1, 1), 1);
        due("condition no: holder", x.about(0, 1), 2);
        due("condition of the second", x.message(0, 2, 0, 3, 0, 30), 2);
        due("no to the second", x.condition(0, false, 40), 1);
        due("the time of an answer is told", x.message(0, 3, 0, 3, 0, 39), RANGE);
        due("condition of the last", x.message(0, 3, 0, 3, 0, 40), 2);
        due("no to the last", x.condition(0, false, 41), 7);
        due("no to the last: holder", x.about(0, 1), -1);
        due("no to the last: ended", x.about(0, 8), 41);
        for (int state = 0; state <= 8; state++) {
            if (state != 2) {
                InterRequest y = inState(state);
                due("condition yes in state " + state, y.condition(0, true, 100), STATE);
                due("condition no in state " + state, y.condition(0, false, 100), STATE);
                due("state stays " + state, y.about(0, 0), state);
            }
        }
    }

    private static void promise7Received() {
        InterRequest x = shipped();
        due("received request -1", x.received(-1, 20), NONE);
        due("received request 1", x.received(1, -1), NONE);
        due("received time back", x.received(0, 19), RANGE);
        due("received time too late", x.received(0, LAST_TIME + 1), RANGE);
        due("received", x.received(0, 20), 4);
        due("received: lender", x.told(0, 0, 1), 4);
        due("received: holder", x.about(0, 1), 1);
        due("received again", x.received(0, 20), STATE);
        for (int state = 0; state <= 8; state++) {
            if (state != 3) {
                InterRequest y = inState(state);
                due("received in state " + state, y.received(0, 100), STATE);
                due("state stays " + state, y.about(0, 0), state);
            }
        }
    }

    private static void promise8Back() {
        InterRequest x = receivedOne();
        due("back request -1", x.back(-1, 30), NONE);
        due("back request 1", x.back(1, -1), NONE);
        due("back time back", x.back(0, 29), RANGE);
        due("back time too late", x.back(0, LAST_TIME + 1), RANGE);
        due("back at the due time", x.back(0, 50), 1);
        due("back: RETURNED", x.about(0, 0), 5);
        due("back: lender", x.told(0, 0, 1), 4);
        due("back: holder", x.about(0, 1), 1);
        due("back: not ended", x.about(0, 8), -1);
        due("back again", x.back(0, 50), STATE);
        InterRequest late = receivedOne();
        due("back behind the due time", late.back(0, 51), 0);
        due("back behind the due time: RETURNED", late.about(0, 0), 5);
        due("back before the due time", receivedOne().back(0, 30), 1);
        for (int state = 0; state <= 8; state++) {
            if (state != 4) {
                InterRequest y = inState(state);
                due("back in state " + state, y.back(0, 100), STATE);
                due("state stays " + state, y.about(0, 0), state);
            }
        }
    }

    private static void promise9Cancel() {
        for (int state = 0; state <= 8; state++) {
            InterRequest x = inState(state);
            boolean may = state <= 2;
            int lender = x.told(0, 0, 1);
            due("cancel time too late in state " + state, x.cancel(0, LAST_TIME + 1), RANGE);
            due("cancel in state " + state, x.cancel(0, 100), may ? 1 : STATE);
            due("state after cancel in " + state, x.about(0, 0), may ? 8 : state);
            due("lender after cancel in " + state, x.told(0, 0, 1), may && state > 0 ? 8 : lender);
            due("second lender after cancel in " + state, x.told(0, 1, 1), state == 7 ? 6 : 0);
            if (may) {
                due("holder after cancel in " + state, x.about(0, 1), -1);
                due("end after cancel in " + state, x.about(0, 8), 100);
                due("cancel again in " + state, x.cancel(0, 100), STATE);
                due("first asked after cancel in " + state, x.about(0, 7), state == 0 ? -1 : 10);
            }
        }
        InterRequest y = sent();
        due("cancel request -1", y.cancel(-1, 10), NONE);
        due("cancel request 1", y.cancel(1, -1), NONE);
        due("cancel time back", y.cancel(0, 9), RANGE);
        y.message(0, 1, 0, 1, 0, 11);
        due("cancel while the lender WILL SUPPLY", y.cancel(0, 11), 1);
        due("cancel while the lender WILL SUPPLY: lender", y.told(0, 0, 1), 8);
        due("no time out of a cancelled one", y.waits(LAST_TIME), 0);
        due("a NEW one without lenders", new InterRequest(1).cancel(0, 0), NONE);
        InterRequest z = new InterRequest(1);
        z.ask(0, 0);
        due("cancel without lenders", z.cancel(0, 0), 1);
        due("cancel without lenders: end", z.about(0, 8), 0);
    }

    private static void promise10Waits() {
        InterRequest x = sent();
        due("waits time back", x.waits(9), RANGE);
        due("waits time -1", x.waits(-1), RANGE);
        due("waits time too late", x.waits(LAST_TIME + 1), RANGE);
        due("waits just SPAN", x.waits(86410), 0);
        due("waits tells its time", x.message(0, 1, 0, 1, 0, 86409), RANGE);
        due("waits more than SPAN", x.waits(86411), 1);
        due("waits: lender PASSED", x.told(0, 0, 1), 7);
        due("waits: next one", x.told(0, 1, 1), 1);
        due("waits: holder", x.about(0, 1), 2);
        due("waits: ASKED", x.about(0, 0), 1);
        due("waits: first asked stays", x.about(0, 7), 10);
        due("waits once each", x.waits(86411), 0);
        due("waits of the next one begins anew", x.waits(86411 + 86400), 0);
        due("message of the one that passed", x.message(0, 1, 0, 1, 0, 86411 + 86400), WRONG);
        due("a message that is taken", x.message(0, 2, 0, 1, 0, 86411 + 86400), 1);
        due("begins the wait anew", x.waits(86411 + 2 * 86400), 0);
        due("a double", x.message(0, 2, 0, 1, 0, 86411 + 2 * 86400), DOUBLE);
        due("a refused one", x.message(0, 2, 1, 1, 0, 86411 + 2 * 86400), STATE);
        due("begin no wait", x.waits(86412 + 2 * 86400), 1);
        due("WILL SUPPLY is PASSED", x.told(0, 1, 1), 7);
        due("a long wait passes one lender of it", x.waits(LAST_TIME), 1);
        due("UNFILLED", x.about(0, 0), 7);
        due("UNFILLED: holder", x.about(0, 1), -1);
        due("UNFILLED: ended", x.about(0, 8), LAST_TIME);
        due("nobody waits", x.waits(LAST_TIME), 0);
        due("once for a lender, however long", sent().waits(LAST_TIME), 1);
        for (int state = 0; state <= 8; state++) {
            InterRequest y = inState(state);
            due("waits in state " + state, y.waits(LAST_TIME), state == 1 ? 1 : 0);
            due("state stays " + state, y.about(0, 0), state);
        }
        waitAfterCondition();
        waitsOfSeveral();
    }

    private static void waitAfterCondition() {
        InterRequest x = conditional();
        due("a condition does not run out", x.waits(500000), 0);
        x.condition(0, true, 500000);
        due("the wait begins with the yes", x.waits(586400), 0);
        due("and ends", x.waits(586401), 1);
        InterRequest y = conditional();
        y.condition(0, false, 500);
        due("the next one's wait begins with the no", y.waits(86900), 0);
        due("and ends, too", y.waits(86901), 1);
        InterRequest z = sent();
        z.message(0, 1, 0, 2, 0, 500);
        due("the next one's wait begins with NOT SUPPLIED", z.waits(86900), 0);
        due("and ends as well", z.waits(86901), 1);
    }

    private static void waitsOfSeveral() {
        InterRequest x = new InterRequest(4);
        x.span(10);
        for (int r = 0; r < 3; r++) {
            x.ask(r, r);
            x.lender(r, 3);
            x.send(r, r);
        }
        due("two of three", x.waits(12), 2);
        due("the first", x.about(0, 0), 7);
        due("the second", x.about(1, 0), 7);
        due("the third", x.about(2, 0), 1);
        due("one more", x.waits(13), 1);
        due("PASSED of house 3", x.statistics(3, 5), 3);
    }

    private static void promise11Span() {
        InterRequest x = sent();
        due("span 0", x.span(0), RANGE);
        due("span -1", x.span(-1), RANGE);
        due("span MIN", x.span(MIN), RANGE);
        due("span 10000001", x.span(10000001), RANGE);
        due("a refused span is not kept", x.waits(86410), 0);
        due("span 10000000", x.span(10000000), 1);
        due("the longest span", x.waits(10000010), 0);
        due("behind the longest span", x.waits(10000011), 1);
        due("span 1", x.span(1), 1);
        due("the shortest span", x.waits(10000012), 0);
        due("behind the shortest span", x.waits(10000013), 1);
    }

    private static void promise12About() {
        InterRequest x = new InterRequest(4);
        x.ask(3, 99);
        x.ask(2, 55);
        x.lender(1, 1);
        x.lender(1, 0);
        x.send(1, 6);
        x.message(1, 1, 2, 2, 0, 7);
        x.message(1, 0, 2, 1, 0, 8);
        x.message(1, 0, 2, 1, 0, 8);
        x.message(1, 0, 3, 4, 20, 9);
        x.received(1, 10);
        int[] want = {4, 0, 2, 55, 2, 1, 20, 6, -1};
        for (int what = 0; what < want.length; what++) {
            due("about(1, " + what + ")", x.about(1, what), want[what]);
        }
        int[] fresh = {0, -1, 0, 99, 3, 0, -1, -1, -1};
        for (int what = 0; what < fresh.length; what++) {
            due("about(0, " + what + ")", x.about(0, what), fresh[what]);
        }
        int[] ends = {-1, -1, -1, -1, -1, -1, 45, 13, 20};
        int[] holders = {-1, 1, 1, 1, 1, 1, 1, -1, -1};
        for (int state = 0; state <= 8; state++) {
            due("end in state " + state, inState(state).about(0, 8), ends[state]);
            due("holder in state " + state, inState(state).about(0, 1), holders[state]);
        }
        for (int bad : new int[] {-1, 9, MIN, MAX}) {
            dueNoSuch("about what " + bad, () -> x.about(0, bad));
        }
        for (int bad : new int[] {-1, 2, 99, 100, MIN, MAX}) {
            dueNoSuch("about request " + bad, () -> x.about(bad, 0));
        }
    }

    private static void promise13Told() {
        InterRequest x = sent();
        x.message(0, 1, 8, 2, 0, 11);
        x.message(0, 2, 0, 1, 0, 12);
        int[][] want = {{1, 6, 8}, {2, 3, 0}, {3, 0, -1}};
        for (int i = 0; i < 3; i++) {
            for (int what = 0; what < 3; what++) {
                due("told(0, " + i + ", " + what + ")", x.told(0, i, what), want[i][what]);
            }
        }
        for (int bad : new int[] {-1, 3, MIN, MAX}) {
            dueNoSuch("told what " + bad, () -> x.told(0, 0, bad));
        }
        for (int bad : new int[] {-1, 3, 7, 8, MIN, MAX}) {
            dueNoSuch("told lender " + bad, () -> x.told(0, bad, 0));
        }
        for (int bad : new int[] {-1, 1, 100, MIN, MAX}) {
            dueNoSuch("told request " + bad, () -> x.told(bad, 0, 0));
        }
    }

    private static void promise14Statistics() {
        int[] requests = {1, 1, 1, 1, 1, 1, 1, 1, 1};
        int[] done = {0, 0, 0, 0, 0, 0, 1, 0, 0};
        int[] unfilled = {0, 0, 0, 0, 0, 0, 0, 1, 0};
        int[] shipped = {0, 0, 0, 1, 1, 1, 1, 0, 0};
        int[] notSupplied = {0, 0, 0, 0, 0, 0, 0, 1, 0};
        for (int state = 0; state <= 8; state++) {
            InterRequest x = inState(state);
            due("requests in state " + state, x.statistics(0, 0), requests[state]);
            due("DONE in state " + state, x.statistics(0, 1), done[state]);
            due("UNFILLED in state " + state, x.statistics(0, 2), unfilled[state]);
            due("SHIPPED in state " + state, x.statistics(1, 3), shipped[state]);
            due("NOT SUPPLIED in state " + state, x.statistics(1, 4), notSupplied[state]);
            due("PASSED in state " + state, x.statistics(1, 5), 0);
            for (int which = 0; which <= 5; which++) {
                due("a house without any, which " + which, x.statistics(4, which), 0);
            }
            for (int which = 3; which <= 5; which++) {
                due("the requester is no lender, which " + which, x.statistics(0, which), 0);
            }
            for (int which = 0; which <= 2; which++) {
                due("the lender is no requester, which " + which, x.statistics(1, which), 0);
            }
        }
        InterRequest y = conditional();
        y.condition(0, false, 20);
        due("NOT SUPPLIED by a no", y.statistics(1, 4), 1);
        y.waits(LAST_TIME);
        due("PASSED", y.statistics(2, 5), 1);
        due("PASSED is not NOT SUPPLIED", y.statistics(2, 4), 0);
        for (int bad : new int[] {-1, 6, MIN, MAX}) {
            due("statistics which " + bad, y.statistics(0, bad), NONE);
        }
        for (int bad : new int[] {-1, 5, 30, MIN, MAX}) {
            due("statistics house " + bad, y.statistics(bad, 0), NONE);
        }
        statisticsOfSeveral();
    }

    private static void statisticsOfSeveral() {
        InterRequest x = new InterRequest(3);
        for (int r = 0; r < 6; r++) {
            x.ask(r % 2, r);
            x.lender(r, 2);
            x.send(r, r);
            x.message(r, 2, 0, r < 4 ? 4 : 2, 100, r);
        }
        x.received(0, 10);
        x.back(0, 10);
        x.message(0, 2, 1, 5, 0, 10);
        due("requests of house 0", x.statistics(0, 0), 3);
        due("DONE of house 0", x.statistics(0, 1), 1);
        due("DONE of house 1", x.statistics(1, 1), 0);
        due("UNFILLED of house 0", x.statistics(0, 2), 1);
        due("SHIPPED and DONE of house 2", x.statistics(2, 3), 4);
        due("NOT SUPPLIED of house 2", x.statistics(2, 4), 2);
    }

    private static void promise15Overdue() {
        InterRequest x = new InterRequest(3);
        int[] dues = {100, 50, 70, 60, 50};
        for (int r = 0; r < 5; r++) {
            x.ask(0, r);
            x.lender(r, 1);
            x.send(r, 5);
            x.message(r, 1, 0, 4, dues[r], 5);
        }
        dueNoSuch("SHIPPED ones are not overdue", () -> x.overdue(LAST_TIME, 0));
        for (int r = 0; r < 4; r++) {
            x.received(r, 55);
        }
        dueNoSuch("at the due time", () -> x.overdue(50, 0));
        due("behind the due time, the time lies back", x.overdue(51, 0), 1);
        dueNoSuch("no second", () -> x.overdue(51, 1));
        due("two: the first", x.overdue(61, 0), 1);
        due("two: the second", x.overdue(61, 1), 3);
        due("all by numbers: 0", x.overdue(LAST_TIME, 0), 0);
        due("all by numbers: 1", x.overdue(LAST_TIME, 1), 1);
        due("all by numbers: 2", x.overdue(LAST_TIME, 2), 2);
        due("all by numbers: 3", x.overdue(LAST_TIME, 3), 3);
        dueNoSuch("all by numbers: 4", () -> x.overdue(LAST_TIME, 4));
        dueNoSuch("i -1", () -> x.overdue(LAST_TIME, -1));
        dueNoSuch("i MIN", () -> x.overdue(LAST_TIME, MIN));
        dueNoSuch("i MAX", () -> x.overdue(LAST_TIME, MAX));
        dueNoSuch("time -1", () -> x.overdue(-1, 0));
        dueNoSuch("time MIN", () -> x.overdue(MIN, 0));
        due("overdue tells no time", x.back(1, 56), 0);
        due("RETURNED ones are not overdue", x.overdue(61, 0), 3);
        for (int state = 0; state <= 8; state++) {
            InterRequest y = inState(state);
            if (state == 4) {
                due("overdue in state 4", y.overdue(51, 0), 0);
            } else {
                dueNoSuch("overdue in state " + state, () -> y.overdue(LAST_TIME, 0));
            }
        }
    }

    /** Only a call that was not refused tells its time. */
    private static void timesNeverGoBack() {
        InterRequest x = sent();
        due("WRONG", x.message(0, 2, 0, 1, 0, 1000), WRONG);
        due("STATE of a message", x.message(0, 1, 0, 5, 0, 1000), STATE);
        due("STATE of send", x.send(0, 1000), STATE);
        due("STATE of condition", x.condition(0, true, 1000), STATE);
        due("STATE of received", x.received(0, 1000), STATE);
        due("STATE of back", x.back(0, 1000), STATE);
        due("NONE of send", x.send(1, 1000), NONE);
        due("NONE of a message", x.message(0, 5, 0, 1, 0, 1000), NONE);
        due("RANGE of a message", x.message(0, 1, 0, 6, 0, 1000), RANGE);
        due("taken at 10", x.message(0, 1, 0, 1, 0, 10), 1);
        due("DOUBLE", x.message(0, 1, 0, 1, 0, 1000), DOUBLE);
        due("taken at 11", x.message(0, 1, 1, 4, 99, 11), 3);
        due("STATE of cancel", x.cancel(0, 1000), STATE);
        due("received back in time", x.received(0, 10), RANGE);
        due("received", x.received(0, 12), 4);
        due("back in time", x.back(0, 11), RANGE);
        due("back", x.back(0, 13), 1);
        due("message back in time", x.message(0, 1, 2, 5, 0, 12), RANGE);
        due("message", x.message(0, 1, 2, 5, 0, 14), 6);
        due("waits back in time", x.waits(13), RANGE);
        due("waits", x.waits(15), 0);
        x.ask(0, 0);
        due("send back in time, of another request", x.send(1, 14), RANGE);
        due("send without lenders", x.send(1, 16), 100);
        x.ask(0, 0);
        due("cancel back in time", x.cancel(2, 15), RANGE);
        due("cancel", x.cancel(2, 17), 1);
        due("waits before the cancel", x.waits(16), RANGE);
        due("waits at the cancel", x.waits(17), 0);
        due("waits at the last time", x.waits(LAST_TIME), 0);
        due("waits behind the last time", x.waits(MAX), RANGE);
        InterRequest y = conditional();
        y.condition(0, true, 25);
        due("waits before the answer", y.waits(24), RANGE);
    }

    public static void main(String[] args) {
        everyState();
        promise1New();
        promise2Ask();
        promise3Lender();
        promise4Send();
        promise5Arguments();
        promise5Doubles();
        promise5States();
        promise5Effects();
        promise6Condition();
        promise7Received();
        promise8Back();
        promise9Cancel();
        promise10Waits();
        promise11Span();
        promise12About();
        promise13Told();
        promise14Statistics();
        promise15Overdue();
        timesNeverGoBack();
        System.out.println(wrong == 0 ? "all answers are as due" : wrong + " answers are not as due");
        if (wrong != 0) {
            System.exit(1);
        }
    }
}
