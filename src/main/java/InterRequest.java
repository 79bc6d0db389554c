import java.util.NoSuchElementException;

/** Requests between houses, each sent to one lender of its string after the other. */
public final class InterRequest {
    public static final int NONE = -1;
    public static final int RANGE = -2;
    public static final int STATE = -3;
    public static final int FULL = -4;
    public static final int WRONG = -5;
    public static final int DOUBLE = -6;

    private static final int MOST_HOUSES = 30;
    private static final int MOST_REQUESTS = 100;
    private static final int MOST_LENDERS = 8;
    private static final int LAST_ITEM = 100000;
    private static final int LAST_TIME = 1000000000;
    private static final int LAST_NUMBER = 1000;
    private static final int LONGEST_SPAN = 10000000;
    private static final int FIRST_SPAN = 86400;
    private static final int NO_LENDER_LEFT = 100;
    private static final int UNSET = -1;

    private static final int KIND_WILL_SUPPLY = 1;
    private static final int KIND_NOT_SUPPLIED = 2;
    private static final int KIND_CONDITION = 3;
    private static final int KIND_SHIP = 4;
    private static final int KIND_CHECKED_IN = 5;

    private final int houses;
    // Filled from the front: the first null is the end of the requests.
    private final Request[] requests;
    private int count;
    private int latest;
    private int longestWait;

    public InterRequest(int houses) {
        this.houses = Math.max(1, Math.min(MOST_HOUSES, houses));
        this.requests = new Request[MOST_REQUESTS];
        this.count = 0;
        this.latest = 0;
        this.longestWait = FIRST_SPAN;
    }

    public int ask(int house, int item) {
        if (!isHouse(house)) {
            return NONE;
        }
        if (item < 0 || item > LAST_ITEM) {
            return RANGE;
        }
        if (count >= MOST_REQUESTS) {
            return FULL;
        }
        requests[count] = new Request(house, item);
        count++;
        return count - 1;
    }

    public int lender(int request, int house) {
        Request r = find(request);
        if (r == null || !isHouse(house)) {
            return NONE;
        }
        if (r.state != Request.NEW || house == r.house || r.hasLender(house)) {
            return STATE;
        }
        if (r.lenders >= MOST_LENDERS) {
            return FULL;
        }
        r.append(new Lender(house));
        return r.lenders;
    }

    public int send(int request, int t) {
        Request r = find(request);
        if (r == null) {
            return NONE;
        }
        if (!isTime(t)) {
            return RANGE;
        }
        if (r.state != Request.NEW) {
            return STATE;
        }
        latest = t;
        r.askNext(t);
        return r.holder == null ? NO_LENDER_LEFT : r.holder.house;
    }

    public int message(int request, int house, int number, int kind, int v, int t) {
        Request r = find(request);
        if (r == null || !isHouse(house)) {
            return NONE;
        }
        if (!isTime(t) || !isMessage(number, kind, v, t)) {
            return RANGE;
        }
        Lender sender = r.holder;
        // A lender that is DONE is still told by about, but holds the request no more.
        if (sender == null || sender.house != house || !sender.holds()) {
            return WRONG;
        }
        if (number <= sender.greatest) {
            r.doubles++;
            return DOUBLE;
        }
        if (!fits(kind, r.state, sender.state)) {
            return STATE;
        }
        latest = t;
        sender.greatest = number;
        sender.since = t;
        take(r, sender, kind, v, t);
        return r.state;
    }

    public int condition(int request, boolean yes, int t) {
        Request r = find(request);
        if (r == null) {
            return NONE;
        }
        if (!isTime(t)) {
            return RANGE;
        }
        Lender holder = r.holder;
        if (r.state != Request.CONDITIONAL || holder == null) {
            return STATE;
        }
        latest = t;
        if (yes) {
            holder.begin(t);
            r.state = Request.ASKED;
        } else {
            holder.state = Lender.NOT_SUPPLIED;
            r.askNext(t);
        }
        return r.state;
    }

    public int received(int request, int t) {
        Request r = find(request);
        if (r == null) {
            return NONE;
        }
        if (!isTime(t)) {
            return RANGE;
        }
        if (r.state != Request.SHIPPED) {
            return STATE;
        }
        latest = t;
        r.state = Request.RECEIVED;
        return r.state;
    }

    public int back(int request, int t) {
        Request r = find(request);
        if (r == null) {
            return NONE;
        }
        if (!isTime(t)) {
            return RANGE;
        }
        if (r.state != Request.RECEIVED) {
            return STATE;
        }
        latest = t;
        r.state = Request.RETURNED;
        return t > r.due ? 0 : 1;
    }

    public int cancel(int request, int t) {
        Request r = find(request);
        if (r == null) {
            return NONE;
        }
        if (!isTime(t)) {
            return RANGE;
        }
        if (!r.mayBeCancelled()) {
            return STATE;
        }
        latest = t;
        if (r.holder != null) {
            r.holder.state = Lender.CANCELLED;
        }
        r.holder = null;
        r.end(Request.CANCELLED, t);
        return 1;
    }

    public int waits(int t) {
        if (!isTime(t)) {
            return RANGE;
        }
        latest = t;
        int passed = 0;
        for (Request r : requests) {
            if (r == null) {
                break;
            }
            Lender holder = r.holder;
            if (holder != null && holder.isAwaited() && t - holder.since > longestWait) {
                holder.state = Lender.PASSED;
                r.askNext(t);
                passed++;
            }
        }
        return passed;
    }

    public int span(int seconds) {
        if (seconds < 1 || seconds > LONGEST_SPAN) {
            return RANGE;
        }
        longestWait = seconds;
        return 1;
    }

    public int about(int request, int what) throws NoSuchElementException {
        Request r = find(request);
        if (r == null) {
            throw new NoSuchElementException("no such request");
        }
        switch (what) {
            case 0: return r.state;
            case 1: return r.holder == null ? UNSET : r.holder.house;
            case 2: return r.lenders;
            case 3: return r.item;
            case 4: return r.house;
            case 5: return r.doubles;
            case 6: return r.due;
            case 7: return r.firstAsked;
            case 8: return r.ended;
            default: throw new NoSuchElementException("no such what");
        }
    }

    public int told(int request, int i, int what) throws NoSuchElementException {
        Request r = find(request);
        Lender l = r == null ? null : r.lenderAt(i);
        if (l == null) {
            throw new NoSuchElementException("no such lender");
        }
        switch (what) {
            case 0: return l.house;
            case 1: return l.state;
            case 2: return l.greatest;
            default: throw new NoSuchElementException("no such what");
        }
    }

    public int statistics(int house, int which) {
        if (!isHouse(house)) {
            return NONE;
        }
        switch (which) {
            case 0: return requestsOf(house);
            case 1: return requestsIn(house, Request.DONE);
            case 2: return requestsIn(house, Request.UNFILLED);
            case 3: return lentIn(house, Lender.SHIPPED) + lentIn(house, Lender.DONE);
            case 4: return lentIn(house, Lender.NOT_SUPPLIED);
            case 5: return lentIn(house, Lender.PASSED);
            default: return NONE;
        }
    }

    public int overdue(int t, int i) throws NoSuchElementException {
        int before = 0;
        for (int n = 0; n < count; n++) {
            Request r = find(n);
            if (r != null && r.state == Request.RECEIVED && t > r.due) {
                if (before == i) {
                    return n;
                }
                before++;
            }
        }
        throw new NoSuchElementException("no such overdue request");
    }

    private boolean isHouse(int house) {
        return house >= 0 && house < houses;
    }

    private boolean isTime(int t) {
        return t >= latest && t <= LAST_TIME;
    }

    private Request find(int number) {
        return number < 0 || number >= requests.length ? null : requests[number];
    }

    private static boolean isMessage(int number, int kind, int v, int t) {
        if (number < 0 || number > LAST_NUMBER) {
            return false;
        }
        if (kind < KIND_WILL_SUPPLY || kind > KIND_CHECKED_IN) {
            return false;
        }
        return kind != KIND_SHIP || (v > t && v <= LAST_TIME);
    }

    private static boolean fits(int kind, int requesterState, int lenderState) {
        boolean inProcess = lenderState == Lender.IN_PROCESS;
        switch (kind) {
            case KIND_WILL_SUPPLY:
            case KIND_CONDITION:
                return inProcess;
            case KIND_NOT_SUPPLIED:
            case KIND_SHIP:
                return inProcess || lenderState == Lender.WILL_SUPPLY;
            case KIND_CHECKED_IN:
                return lenderState == Lender.SHIPPED && requesterState == Request.RETURNED;
            default:
                return false;
        }
    }

    private static void take(Request r, Lender sender, int kind, int v, int t) {
        switch (kind) {
            case KIND_WILL_SUPPLY:
                sender.state = Lender.WILL_SUPPLY;
                break;
            case KIND_NOT_SUPPLIED:
                sender.state = Lender.NOT_SUPPLIED;
                r.askNext(t);
                break;
            case KIND_CONDITION:
                sender.state = Lender.CONDITIONAL;
                r.state = Request.CONDITIONAL;
                break;
            case KIND_SHIP:
                sender.state = Lender.SHIPPED;
                r.state = Request.SHIPPED;
                r.due = v;
                break;
            case KIND_CHECKED_IN:
                sender.state = Lender.DONE;
                r.end(Request.DONE, t);
                break;
            default:
                break;
        }
    }

    private int requestsOf(int house) {
        int found = 0;
        for (Request r : requests) {
            if (r != null && r.house == house) {
                found++;
            }
        }
        return found;
    }

    private int requestsIn(int house, int state) {
        int found = 0;
        for (Request r : requests) {
            if (r != null && r.house == house && r.state == state) {
                found++;
            }
        }
        return found;
    }

    private int lentIn(int house, int state) {
        int found = 0;
        for (Request r : requests) {
            if (r != null && r.hasLenderIn(house, state)) {
                found++;
            }
        }
        return found;
    }

    /** A house's request, with the requester's side of it. */
    private static final class Request {
        static final int NEW = 0;
        static final int ASKED = 1;
        static final int CONDITIONAL = 2;
        static final int SHIPPED = 3;
        static final int RECEIVED = 4;
        static final int RETURNED = 5;
        static final int DONE = 6;
        static final int UNFILLED = 7;
        static final int CANCELLED = 8;

        final int house;
        final int item;
        // Filled from the front: the first null is the end of the string.
        final Lender[] string;
        int lenders;
        int state;
        // Stays the one that shipped after all is DONE; null where nobody has the request.
        Lender holder;
        int doubles;
        int due;
        int firstAsked;
        int ended;

        Request(int house, int item) {
            this.house = house;
            this.item = item;
            this.string = new Lender[MOST_LENDERS];
            this.lenders = 0;
            this.state = NEW;
            this.holder = null;
            this.doubles = 0;
            this.due = UNSET;
            this.firstAsked = UNSET;
            this.ended = UNSET;
        }

        void append(Lender l) {
            if (lenders < string.length) {
                string[lenders] = l;
                lenders++;
            }
        }

        Lender lenderAt(int i) {
            return i < 0 || i >= string.length ? null : string[i];
        }

        boolean hasLender(int wanted) {
            for (Lender l : string) {
                if (l != null && l.house == wanted) {
                    return true;
                }
            }
            return false;
        }

        boolean hasLenderIn(int wanted, int lenderState) {
            for (Lender l : string) {
                if (l != null && l.house == wanted && l.state == lenderState) {
                    return true;
                }
            }
            return false;
        }

        boolean mayBeCancelled() {
            return state == NEW || state == ASKED || state == CONDITIONAL;
        }

        void askNext(int t) {
            holder = nextUnasked();
            if (holder == null) {
                end(UNFILLED, t);
                return;
            }
            holder.begin(t);
            state = ASKED;
            if (firstAsked == UNSET) {
                firstAsked = t;
            }
        }

        Lender nextUnasked() {
            for (Lender l : string) {
                if (l != null && l.state == Lender.NOT_YET) {
                    return l;
                }
            }
            return null;
        }

        void end(int last, int t) {
            state = last;
            ended = t;
        }
    }

    /** A lender of one request's string, with its own side of that request. */
    private static final class Lender {
        static final int NOT_YET = 0;
        static final int IN_PROCESS = 1;
        static final int CONDITIONAL = 2;
        static final int WILL_SUPPLY = 3;
        static final int SHIPPED = 4;
        static final int DONE = 5;
        static final int NOT_SUPPLIED = 6;
        static final int PASSED = 7;
        static final int CANCELLED = 8;

        final int house;
        int state;
        int greatest;
        // When its wait began anew: asked, last message taken, or its condition accepted.
        int since;

        Lender(int house) {
            this.house = house;
            this.state = NOT_YET;
            this.greatest = UNSET;
            this.since = 0;
        }

        void begin(int t) {
            state = IN_PROCESS;
            since = t;
        }

        boolean holds() {
            return state == IN_PROCESS || state == CONDITIONAL || state == WILL_SUPPLY || state == SHIPPED;
        }

        boolean isAwaited() {
            return state == IN_PROCESS || state == WILL_SUPPLY;
        }
    }
}
