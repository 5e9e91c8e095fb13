import java.math.BigDecimal;
import java.math.BigInteger;
import java.math.RoundingMode;
import java.util.ArrayDeque;
import java.util.ArrayList;
import java.util.List;

/**
 * A second pump, written from the document in another way (histories of events, numbers as texts) and without regard
 * to LANGUAGE.md, so that a slip in the one is not repeated in the other.
 */
final class Model {
    record Event(int time, int kind, int channel, int number) {
    }

    static final class Medicine {
        int kind;
        int strength;
        int[] amounts;
        int limit = 100000;
        int bolus = 0;
        int pace = 1;
        int lockout = 0;
        int many = 1;
    }

    static final class Chan {
        int phase = 0;
        int from = 0;
        String text = "";
        int keyTime = 0;
        int entryDrug = -1;
        int weight = 0;
        int amount = 0;
        int drug = -1;
        int rate = 0;
        int goal = 0;
        int programStart = 0;
        long debt = 0;
        int bolusLeft = 0;
        int total = 0;
        boolean relay = false;
        boolean door = false;
        boolean air = false;
        int flow = 200;
        int pressure = 0;
        int high = 0;
        int bubble = 0;
        boolean done = false;
        final boolean[] latched = new boolean[7];
        final ArrayDeque<Integer> strokes = new ArrayDeque<>();
        final ArrayDeque<Integer> airStrokes = new ArrayDeque<>();
        final List<Integer> boluses = new ArrayList<>();

        boolean inEntry() {
            return phase > 0 && phase < 6;
        }
    }

    final Medicine[] drugs = new Medicine[16];
    final Chan[] chans = {new Chan(), new Chan(), new Chan()};
    final List<Event> events = new ArrayList<>();
    int time = 0;
    int charge = 36000;
    boolean mains = true;
    int chosen = 0;
    int silence = 0;

    private static void index(boolean ok) {
        if (!ok) {
            throw new IndexOutOfBoundsException();
        }
    }

    private static void argument(boolean ok) {
        if (!ok) {
            throw new IllegalArgumentException();
        }
    }

    private static boolean in(int low, int x, int high) {
        return low <= x && x <= high;
    }

    private void free(int d) {
        for (Chan c : chans) {
            if (c.drug == d || c.inEntry() && c.phase != 1 && c.entryDrug == d) {
                throw new IllegalStateException();
            }
        }
    }

    private void event(int kind, Chan c, int number) {
        events.add(new Event(time, kind, List.of(chans).indexOf(c), number));
    }

    void drug(int d, int kind, int strength, int a, int b, int c, int e) {
        index(in(0, d, 15));
        argument(in(0, kind, 1) && in(1, strength, 10000));
        argument(in(1, a, 99999) && in(a, b, 99999) && in(b, c, 99999) && in(c, e, 99999));
        free(d);
        drugs[d] = new Medicine();
        drugs[d].kind = kind;
        drugs[d].strength = strength;
        drugs[d].amounts = new int[] {a, b, c, e};
    }

    void more(int d, int limit, int bolus, int pace, int lockout, int many) {
        index(in(0, d, 15) && drugs[d] != null);
        argument(in(1, limit, 100000) && in(0, bolus, 5000) && in(1, pace, 30));
        argument(in(0, lockout, 3600) && in(1, many, 20));
        free(d);
        drugs[d].limit = limit;
        drugs[d].bolus = bolus;
        drugs[d].pace = pace;
        drugs[d].lockout = lockout;
        drugs[d].many = many;
    }

    private int rateOf(Medicine m, int amount, int weight) {
        if (m.kind == 0) {
            return amount;
        }
        BigDecimal above = BigDecimal.valueOf(amount).multiply(BigDecimal.valueOf(weight)).multiply(BigDecimal.valueOf(3));
        BigDecimal rate = above.divide(BigDecimal.valueOf(5L * m.strength), 0, RoundingMode.HALF_UP);
        return rate.toBigInteger().min(BigInteger.valueOf(Integer.MAX_VALUE)).intValueExact();
    }

    int rate(int d, int amount, int weight) {
        index(in(0, d, 15) && drugs[d] != null);
        argument(in(1, amount, 99999) && in(5, weight, 3000));
        return rateOf(drugs[d], amount, weight);
    }

    private int places(Chan c) {
        return c.phase == 1 ? 0 : c.phase == 3 && drugs[c.entryDrug].kind == 1 ? 2 : 1;
    }

    private int number(Chan c) {
        if (c.text.isEmpty()) {
            return 0;
        }
        String whole = c.text.endsWith(".") ? c.text + "0" : c.text;
        return new BigDecimal(whole).movePointRight(places(c)).intValueExact();
    }

    private boolean type(Chan c, String more) {
        String text = c.text + more;
        String behind = places(c) == 0 ? "" : "(\\.[0-9]{0," + places(c) + "})?";
        if (!in(1, c.phase, 4) || !text.matches("(0|[1-9][0-9]{0,3})" + behind)) {
            return false;
        }
        c.text = text;
        return true;
    }

    private void move(Chan c, int phase) {
        c.phase = phase;
        c.text = "";
    }

    private void drop(Chan c) {
        int was = c.phase;
        move(c, c.from);
        event(9, c, was);
    }

    private boolean runnable(Chan c) {
        for (int a = 0; a < 5; a++) {
            if (c.latched[a]) {
                return false;
            }
        }
        return (c.phase == 6 || c.phase == 8) && !c.door;
    }

    private void run(Chan c) {
        c.phase = 7;
        c.relay = false;
        event(3, c, c.rate);
    }

    int key(int k) {
        argument(in(0, k, 21));
        Chan c = chans[chosen];
        int answer = pressed(c, k);
        if (answer == -1 || k == 16 || k == 18 || k == 19 || k == 20) {
            return answer == -1 ? -1 : c.phase;
        }
        c.keyTime = time;
        return answer == -2 ? -2 : c.phase;
    }

    /** 0, or -1 REFUSED, or -2 HARD. */
    private int pressed(Chan c, int k) {
        boolean rest = c.phase == 6 || c.phase == 8;
        if (k <= 9) {
            return type(c, "" + k) ? 0 : -1;
        } else if (k == 10) {
            return type(c, ".") ? 0 : -1;
        } else if (k == 11) {
            if (c.phase == 5) {
                move(c, 3);
            } else if (!in(1, c.phase, 4)) {
                return -1;
            } else if (c.text.isEmpty()) {
                drop(c);
            } else {
                c.text = "";
            }
        } else if (k == 12) {
            return in(1, c.phase, 4) && !c.text.isEmpty() && !c.text.endsWith(".") ? enter(c, number(c)) : -1;
        } else if (k == 13) {
            if (c.phase != 0 && !rest) {
                return -1;
            }
            c.from = c.phase;
            c.relay = false;
            move(c, 1);
        } else if (k == 14) {
            if (!runnable(c)) {
                return -1;
            }
            run(c);
        } else if (k == 15) {
            if (c.phase == 7) {
                c.phase = 8;
                c.bolusLeft = 0;
                event(4, c, c.total - c.programStart);
            } else if (c.inEntry()) {
                drop(c);
            } else {
                return -1;
            }
        } else if (k == 16) {
            return acknowledge(c) ? 0 : -1;
        } else if (k == 17) {
            if (c.phase != 5) {
                return -1;
            }
            move(c, 4);
            event(2, c, c.amount);
        } else if (k == 18) {
            return bolus(c) ? 0 : -1;
        } else if (k == 19) {
            silence = 120;
        } else if (k == 20) {
            chosen = (chosen + 1) % 3;
        } else {
            if (!rest) {
                return -1;
            }
            c.relay = !c.relay;
        }
        return 0;
    }

    private int enter(Chan c, int x) {
        if (c.phase == 1) {
            if (x > 15 || drugs[x] == null) {
                return -1;
            }
            c.entryDrug = x;
            move(c, drugs[x].kind == 1 ? 2 : 3);
        } else if (c.phase == 2) {
            if (!in(5, x, 3000)) {
                return -1;
            }
            c.weight = x;
            move(c, 3);
        } else if (c.phase == 3) {
            Medicine m = drugs[c.entryDrug];
            if (!in(m.amounts[0], x, m.amounts[3]) || !in(1, rateOf(m, x, c.weight), 9999)) {
                c.text = "";
                event(1, c, x);
                return -2;
            }
            c.amount = x;
            move(c, in(m.amounts[1], x, m.amounts[2]) ? 4 : 5);
        } else {
            c.drug = c.entryDrug;
            c.rate = rateOf(drugs[c.drug], c.amount, c.weight);
            c.programStart = c.total;
            c.goal = x == 0 ? -1 : c.total + 10 * x;
            c.debt = 0;
            c.bolusLeft = 0;
            move(c, 6);
            event(0, c, c.rate);
        }
        return 0;
    }

    private int begunInHour(Chan c) {
        return (int) c.boluses.stream().filter(t -> t + 3600 > time).count();
    }

    private boolean bolus(Chan c) {
        if (c.phase != 7) {
            return false;
        }
        Medicine m = drugs[c.drug];
        boolean locked = !c.boluses.isEmpty() && c.boluses.get(c.boluses.size() - 1) + m.lockout > time;
        if (m.bolus == 0 || c.bolusLeft > 0 || locked || begunInHour(c) >= m.many) {
            event(6, c, 0);
            return false;
        }
        c.bolusLeft = m.bolus;
        c.boluses.add(time);
        event(5, c, m.bolus);
        return true;
    }

    private boolean acknowledge(Chan c) {
        boolean[] can = {!c.air, true, !c.door, charge >= 200,
            c.drug >= 0 && c.strokes.size() < drugs[c.drug].limit, true, mains || charge >= 3600};
        boolean any = false;
        for (int a = 0; a < 7; a++) {
            if (c.latched[a] && can[a]) {
                any = true;
                c.latched[a] = false;
                if (a == 0) {
                    c.bubble = 0;
                    c.airStrokes.clear();
                }
                event(8, c, a);
            }
        }
        return any;
    }

    private void alarm(Chan c, int a) {
        if (!c.latched[a]) {
            c.latched[a] = true;
            silence = 0;
            event(7, c, a);
        }
        if (a < 5) {
            c.phase = c.phase == 7 ? 8 : c.phase;
            c.bolusLeft = 0;
        }
    }

    int ticks(int n) {
        argument(in(0, n, 600));
        int before = chans[0].total + chans[1].total + chans[2].total;
        for (int i = 0; i < n; i++) {
            tick();
        }
        return chans[0].total + chans[1].total + chans[2].total - before;
    }

    private void tick() {
        time++;
        silence = Math.max(0, silence - 1);
        int before = chans[0].total + chans[1].total + chans[2].total;
        for (Chan c : chans) {
            tick(c);
        }
        int made = chans[0].total + chans[1].total + chans[2].total - before;
        charge = mains ? Math.min(36000, charge + 4) : Math.max(0, charge - 1 - made);
        if (!mains && charge < 3600) {
            alarm(chans[0], 6);
        }
        for (Chan c : chans) {
            if (charge == 0 && c.phase == 7) {
                alarm(c, 3);
            }
        }
        for (int i = 0; i < 3; i++) {
            if (chans[i].relay && chans[(i + 2) % 3].done) {
                chans[i].relay = false;
                if (runnable(chans[i])) {
                    run(chans[i]);
                }
            }
        }
    }

    private void tick(Chan c) {
        while (!c.strokes.isEmpty() && c.strokes.peek() <= time - 3600) {
            c.strokes.poll();
        }
        while (!c.airStrokes.isEmpty() && c.airStrokes.peek() <= time - 900) {
            c.airStrokes.poll();
        }
        c.done = false;
        if (c.phase == 7) {
            deliver(c);
        }
        c.pressure = Math.max(0, c.pressure - c.flow);
        c.high = c.pressure >= 100 ? c.high + 1 : 0;
        if (c.high == 3) {
            c.pressure = 0;
            c.high = 0;
            alarm(c, 1);
        }
        if (c.inEntry() && time - c.keyTime >= 60) {
            drop(c);
        }
    }

    private void deliver(Chan c) {
        Medicine m = drugs[c.drug];
        c.debt += c.rate;
        long plain = c.debt / 360;
        c.debt -= plain * 360;
        int extra = Math.min(m.pace, c.bolusLeft);
        for (long i = 0; i < plain + extra; i++) {
            if (c.strokes.size() >= m.limit) {
                alarm(c, 4);
                return;
            }
            c.strokes.add(time);
            c.total++;
            if (i >= plain) {
                c.bolusLeft--;
            }
            c.pressure += 6;
            c.bubble = c.air ? c.bubble + 1 : 0;
            if (c.air) {
                c.airStrokes.add(time);
            }
            boolean air = c.bubble >= 5 || c.airStrokes.size() >= 60;
            if (air) {
                alarm(c, 0);
            }
            if (c.total == c.goal) {
                c.done = true;
                c.goal = -1;
                c.bolusLeft = 0;
                c.rate = c.rate > 10 ? 10 : c.rate;
                alarm(c, 5);
            }
            if (air || c.done) {
                return;
            }
        }
    }

    int flow(int c, int flow) {
        index(in(0, c, 2));
        argument(in(0, flow, 1000));
        int was = chans[c].flow;
        chans[c].flow = flow;
        return was;
    }

    boolean air(int c, boolean is) {
        index(in(0, c, 2));
        boolean was = chans[c].air;
        chans[c].air = is;
        return was;
    }

    boolean door(int c, boolean open) {
        index(in(0, c, 2));
        boolean was = chans[c].door;
        chans[c].door = open;
        if (open && !was && chans[c].phase == 7) {
            alarm(chans[c], 2);
        }
        return was;
    }

    boolean mains(boolean is) {
        boolean was = mains;
        mains = is;
        return was;
    }

    int about(int what) {
        index(in(0, what, 4));
        int bits = channel(0, 1) | channel(1, 1) | channel(2, 1);
        int sound = bits != 0 && silence == 0 ? 1 : 0;
        return new int[] {time, charge, chosen, sound, events.size()}[what];
    }

    int channel(int i, int what) {
        index(in(0, i, 2) && in(0, what, 14));
        Chan c = chans[i];
        int bits = 0;
        for (int a = 0; a < 7; a++) {
            bits += c.latched[a] ? 1 << a : 0;
        }
        boolean ends = c.drug >= 0 && c.goal >= 0;
        int made = c.drug < 0 ? 0 : c.total - c.programStart;
        return new int[] {c.phase, bits, c.rate, ends ? c.goal - c.total : -1, made, (int) c.debt, c.bolusLeft,
            c.strokes.size(), c.pressure, c.bubble, c.airStrokes.size(), c.relay ? 1 : 0, begunInHour(c), c.drug,
            c.total}[what];
    }

    int entry(int what) {
        index(in(0, what, 2));
        Chan c = chans[chosen];
        return what == 0 ? number(c) : what == 1 ? c.text.length() : c.inEntry() ? time - c.keyTime : 0;
    }

    int log(int i, int what) {
        index(in(0, i, events.size() - 1) && i >= events.size() - 64 && in(0, what, 3));
        Event e = events.get(i);
        return new int[] {e.time, e.kind, e.channel, e.number}[what];
    }

    long chain() {
        long c = 1;
        for (Event e : events) {
            for (int x : new int[] {e.time, e.kind, e.channel, e.number}) {
                c = Long.rotateLeft(c * 31 + x, 7);
            }
        }
        return c;
    }
}
