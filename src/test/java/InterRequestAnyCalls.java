import java.util.NoSuchElementException;
import java.util.Random;

/**
 * Runs of 512 calls with chosen arguments, odd ones among them: nothing but a NoSuchElementException
 * of about, told and overdue is ever thrown, and both sides' states agree after every change.
 */
public final class InterRequestAnyCalls {
    private static final int RUNS = 3000;
    private static final int CALLS = 512;
    private static final int[] ODD = {Integer.MIN_VALUE, -7, -1, 30, 100, 1001, 1000000001, Integer.MAX_VALUE};

    private final Random random;
    private final InterRequest x;
    private final int houses;
    private int now = 0;
    private int calls = 0;

    private InterRequestAnyCalls(long seed) {
        random = new Random(seed);
        houses = 2 + random.nextInt(5);
        x = new InterRequest(houses);
    }

    private int any(int bound) {
        return random.nextInt(40) == 0 ? ODD[random.nextInt(ODD.length)] : random.nextInt(bound);
    }

    private int time() {
        if (random.nextInt(30) == 0) {
            return ODD[random.nextInt(ODD.length)];
        }
        now += random.nextInt(50) == 0 ? 90000 : random.nextInt(3);
        return now;
    }

    private void call(int requests) {
        int r = any(requests);
        switch (random.nextInt(14)) {
            case 0: x.ask(any(houses), any(100001)); break;
            case 1: case 2: x.lender(r, any(houses)); break;
            case 3: x.send(r, time()); break;
            case 4: case 5: case 6: case 7: {
                int t = time();
                x.message(r, any(houses), any(1001), 1 + any(5), t + any(100), t);
                break;
            }
            case 8: x.condition(r, random.nextBoolean(), time()); break;
            case 9: x.received(r, time()); break;
            case 10: x.back(r, time()); break;
            case 11: if (random.nextInt(4) == 0) { x.cancel(r, time()); } break;
            case 12: x.waits(time()); break;
            default: if (random.nextInt(4) == 0) { x.span(1 + any(10000000)); } break;
        }
        calls++;
    }

    private void look(int requests) {
        try {
            switch (random.nextInt(4)) {
                case 0: x.about(any(requests), any(9)); break;
                case 1: x.told(any(requests), any(8), any(3)); break;
                case 2: x.overdue(time(), any(4)); break;
                default: x.statistics(any(houses), any(6)); break;
            }
        } catch (NoSuchElementException e) {
            // the document's own
        }
        calls++;
    }

    /** What is wrong with request r, or null. */
    private String disagreement(int r) {
        int state = x.about(r, 0);
        int holder = x.about(r, 1);
        int lenders = x.about(r, 2);
        int due = x.about(r, 6);
        int ended = x.about(r, 8);
        int lenderState = 0;
        int holding = 0;
        int asked = 0;
        for (int i = 0; i < lenders; i++) {
            int s = x.told(r, i, 1);
            asked += s != 0 ? 1 : 0;
            holding += s >= 1 && s <= 5 ? 1 : 0;
            lenderState = x.told(r, i, 0) == holder ? s : lenderState;
        }
        calls += 5 + 2 * lenders;
        boolean held = state >= 1 && state <= 6;
        boolean last = state >= 6;
        if (holding != (held ? 1 : 0) || (holder >= 0) != held) { return "who holds it"; }
        if ((due >= 0) != (state >= 3 && state <= 6)) { return "its due time"; }
        if ((ended >= 0) != last) { return "its end"; }
        if (state == 0 && asked != 0 || state == 7 && asked != lenders) { return "who was asked"; }
        boolean fits = state == 1 ? lenderState == 1 || lenderState == 3
            : state == 2 ? lenderState == 2
            : state >= 3 && state <= 5 ? lenderState == 4
            : state != 6 || lenderState == 5;
        return fits ? null : "its lender's state";
    }

    private String run() {
        int requests = 1 + random.nextInt(4);
        x.ask(0, 1);
        calls++;
        while (calls < CALLS - 40) {
            call(requests);
            look(requests);
            if (random.nextInt(8) == 0) {
                String bad = disagreement(0);
                if (bad != null) {
                    return bad;
                }
            }
        }
        return null;
    }

    public static void main(String[] args) {
        int wrong = 0;
        for (int seed = 0; seed < RUNS; seed++) {
            String bad;
            try {
                bad = new InterRequestAnyCalls(seed).run();
            } catch (RuntimeException e) {
                bad = e.toString();
            }
            if (bad != null) {
                wrong++;
                System.out.println("seed " + seed + ": " + bad);
            }
        }
        System.out.println(wrong == 0 ? "all runs are as due" : wrong + " runs are not as due");
        if (wrong != 0) {
            System.exit(1);
        }
    }
}
