import java.util.Random;
import java.util.function.Supplier;

/** Random runs of calls, each answered by the pump and by the model. */
public final class ModelTest {
    private static final int RUNS = 3000;
    /** Of an object; the document leaves free what later ones answer. */
    private static final int CALLS = 512;
    private static final int CALLS_OF_THE_LAST_LOOK = 1 + 5 + 3 + 45 + 2;
    private static final int CALLS_OF_THE_LONGEST_STEP = 35;

    private final Random random;
    private final DosePump pump = new DosePump();
    private final Model model = new Model();
    private final StringBuilder trace = new StringBuilder();
    private int calls = 0;

    private ModelTest(long seed) {
        random = new Random(seed);
    }

    public static void main(String[] args) {
        int runs = args.length > 0 ? Integer.parseInt(args[0]) : RUNS;
        for (int run = 0; run < runs; run++) {
            ModelTest test = new ModelTest(run);
            if (!test.agrees()) {
                System.out.println("run " + run + ": " + test.trace);
                System.exit(1);
            }
        }
    }

    private boolean agrees() {
        if (random.nextInt(4) == 0 && !drainBattery()) {
            return false;
        }
        while (calls + CALLS_OF_THE_LONGEST_STEP + CALLS_OF_THE_LAST_LOOK <= CALLS) {
            if (!step() || !look()) {
                return false;
            }
        }
        boolean same = sameState();
        if (calls > CALLS) {
            trace.append("the test made ").append(calls).append(" calls");
        }
        return same && calls <= CALLS;
    }

    /** The chain has all that was logged; of the rest a few things at random. */
    private boolean look() {
        int a = random.nextInt(5);
        int c = random.nextInt(3);
        int w = random.nextInt(15);
        boolean same = both("*chain()", pump::chain, model::chain)
            && both("*channel(" + c + "," + w + ")", () -> pump.channel(c, w), () -> model.channel(c, w));
        int e = a - 2;
        return same && (a < 2 || both("*entry(" + e + ")", () -> pump.entry(e), () -> model.entry(e)))
            && (a > 1 || both("*about(" + (a + 3) + ")", () -> pump.about(a + 3), () -> model.about(a + 3)));
    }

    /** So far that the alarms LOW and EMPTY come in what follows. */
    private boolean drainBattery() {
        boolean same = both("mains(false)", () -> pump.mains(false), () -> model.mains(false));
        int n = pick(54, 59, 60);
        for (int i = 0; same && i < n; i++) {
            same = both("ticks(600)", () -> pump.ticks(600), () -> model.ticks(600));
        }
        return same;
    }

    private boolean both(String call, Supplier<Object> real, Supplier<Object> due) {
        calls++;
        String got = answer(real);
        String want = answer(due);
        if (call.startsWith("*")) {
            if (!got.equals(want)) {
                trace.append(call).append(" answered ").append(got).append(", due is ").append(want);
            }
        } else {
            trace.append(call).append(" = ").append(got).append(got.equals(want) ? "; " : ", due is " + want);
        }
        return got.equals(want);
    }

    private static String answer(Supplier<Object> call) {
        try {
            return String.valueOf(call.get());
        } catch (IndexOutOfBoundsException | IllegalArgumentException | IllegalStateException e) {
            return e.getClass().getName();
        }
    }

    private int pick(int... from) {
        return from[random.nextInt(from.length)];
    }

    private int near(int low, int high) {
        int x = random.nextInt(12);
        if (x == 0) {
            return random.nextInt();
        }
        return x == 1 ? low - 1 : x == 2 ? high + 1 : x == 3 ? low : x == 4 ? high : low + random.nextInt(high - low + 1);
    }

    private boolean step() {
        int x = random.nextInt(100);
        if (x < 6) {
            return tell();
        } else if (x < 9) {
            return tellMore();
        } else if (x < 40) {
            return press(random.nextInt(60) == 0 ? near(0, 21) : likelyKey());
        } else if (x < 55) {
            return makeProgram();
        } else if (x < 75) {
            int n = random.nextInt(40) == 0 ? near(0, 600) : pick(0, 1, 1, 1, 2, 3, 7, 30, 59, 60, 119, 120, 300, 600);
            return both("ticks(" + n + ")", () -> pump.ticks(n), () -> model.ticks(n));
        }
        return touch(x);
    }

    private boolean touch(int x) {
        int c = random.nextInt(40) == 0 ? near(0, 2) : random.nextInt(3);
        boolean is = random.nextBoolean();
        if (x < 80) {
            int flow = random.nextInt(20) == 0 ? near(0, 1000) : pick(0, 0, 5, 12, 30, 150, 200, 1000);
            return both("flow(" + c + "," + flow + ")", () -> pump.flow(c, flow), () -> model.flow(c, flow));
        } else if (x < 85) {
            return both("air(" + c + "," + is + ")", () -> pump.air(c, is), () -> model.air(c, is));
        } else if (x < 89) {
            boolean open = random.nextInt(3) == 0;
            return both("door(" + c + "," + open + ")", () -> pump.door(c, open), () -> model.door(c, open));
        } else if (x < 92) {
            return both("mains(" + is + ")", () -> pump.mains(is), () -> model.mains(is));
        } else if (x < 96) {
            int d = near(0, 15);
            int amount = near(1, 99999);
            int weight = near(5, 3000);
            return both("rate(" + d + "," + amount + "," + weight + ")", () -> pump.rate(d, amount, weight),
                () -> model.rate(d, amount, weight));
        }
        return askAside();
    }

    private boolean askAside() {
        int a = near(0, 14);
        int b = near(0, 14);
        return both("about(" + a + ")", () -> pump.about(a), () -> model.about(a))
            && both("entry(" + a + ")", () -> pump.entry(a), () -> model.entry(a))
            && both("channel(" + a + "," + b + ")", () -> pump.channel(a, b), () -> model.channel(a, b))
            && both("log(" + a + "," + b + ")", () -> pump.log(a, b), () -> model.log(a, b));
    }

    private int drugNumber() {
        return random.nextInt(30) == 0 ? near(0, 15) : random.nextInt(4);
    }

    private boolean tell() {
        int d = drugNumber();
        boolean odd = random.nextInt(4) == 0;
        int kind = odd ? near(0, 1) : random.nextInt(2);
        int strength = odd ? near(1, 10000) : pick(1, 10, 50, 1000);
        int a = odd ? near(1, 99999) : pick(1, 5, 10);
        int b = odd ? near(1, 99999) : a + pick(0, 10, 50);
        int c = odd ? near(1, 99999) : b + pick(0, 100, 3000);
        int e = odd ? near(1, 99999) : c + pick(0, 500, 90000);
        String call = "drug(" + d + "," + kind + "," + strength + "," + a + "," + b + "," + c + "," + e + ")";
        return both(call, () -> {
            pump.drug(d, kind, strength, a, b, c, e);
            return 0;
        }, () -> {
            model.drug(d, kind, strength, a, b, c, e);
            return 0;
        });
    }

    private boolean tellMore() {
        int d = drugNumber();
        boolean odd = random.nextInt(6) == 0;
        int limit = odd ? near(1, 100000) : pick(5, 50, 500, 5000, 100000);
        int bolus = odd ? near(0, 5000) : pick(0, 1, 10, 40, 500);
        int pace = odd ? near(1, 30) : pick(1, 3, 30);
        int lockout = odd ? near(0, 3600) : pick(0, 1, 10, 600);
        int many = odd ? near(1, 20) : pick(1, 2, 5, 20);
        String call = "more(" + d + "," + limit + "," + bolus + "," + pace + "," + lockout + "," + many + ")";
        return both(call, () -> {
            pump.more(d, limit, bolus, pace, lockout, many);
            return 0;
        }, () -> {
            model.more(d, limit, bolus, pace, lockout, many);
            return 0;
        });
    }

    private int likelyKey() {
        return pick(random.nextInt(22), random.nextInt(11), 12, 13, 14, 14, 15, 16, 16, 17, 18, 18, 19, 20, 21);
    }

    private boolean press(int k) {
        return both("key(" + k + ")", () -> pump.key(k), () -> model.key(k));
    }

    private boolean pressAll(String keys) {
        for (char name : keys.toCharArray()) {
            if (!press("0123456789.CEBRSAOPQNY".indexOf(name))) {
                return false;
            }
        }
        return true;
    }

    /** Most of the way to a channel that runs; what does not fit is refused, and tests that. */
    private boolean makeProgram() {
        int d = random.nextInt(4);
        boolean doses = model.drugs[d] != null && model.drugs[d].kind == 1;
        String weight = doses ? pickText("70", "3.5", "300", "0.5") + "E" : "";
        String amount = pickText("1", "0.5", "2.5", "9.9", "36", "100", "360", "999.9", "1.25", "50.05", "9999.99");
        String volume = pickText("0", "0.1", "0.2", "1", "5.5", "100", "9999.9");
        String end = pickText("", "R", "R", "RP", "Y", "YN", "RN");
        return pressAll(pickText("", "N", "S") + "B" + d + "E" + weight + amount + "EO" + volume + "E" + end);
    }

    private String pickText(String... from) {
        return from[random.nextInt(from.length)];
    }

    private boolean sameState() {
        boolean same = both("*chain()", pump::chain, model::chain);
        for (int what = 0; same && what < 5; what++) {
            int w = what;
            same = both("*about(" + w + ")", () -> pump.about(w), () -> model.about(w));
        }
        for (int what = 0; same && what < 3; what++) {
            int w = what;
            same = both("*entry(" + w + ")", () -> pump.entry(w), () -> model.entry(w));
        }
        for (int at = 0; same && at < 45; at++) {
            int c = at / 15;
            int w = at % 15;
            same = both("*channel(" + c + "," + w + ")", () -> pump.channel(c, w), () -> model.channel(c, w));
        }
        int oldest = model.events.size() - 65;
        return same && both("*log(oldest)", () -> pump.log(oldest + 1, 3), () -> model.log(oldest + 1, 3))
            && both("*log(gone)", () -> pump.log(oldest, 0), () -> model.log(oldest, 0));
    }
}
