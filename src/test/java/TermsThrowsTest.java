import java.util.ArrayList;
import java.util.List;

/** What 'Terms' says of exceptions: a call that throws changes nothing, and the first one named is thrown. */
public final class TermsThrowsTest {
    private static final int MIN = Integer.MIN_VALUE;
    private static final int MAX = Integer.MAX_VALUE;

    public static void main(String[] args) {
        changesNothing();
        firstOneNamed();
        Due.end();
    }

    private static List<Runnable> indexes(DosePump pump) {
        List<Runnable> all = new ArrayList<>();
        for (int d : new int[] {MIN, -1, 16, MAX}) {
            all.add(() -> pump.drug(d, 0, 1, 1, 1, 1, 1));
            all.add(() -> pump.more(d, 1, 0, 1, 0, 1));
            all.add(() -> pump.rate(d, 1, 5));
        }
        all.add(() -> pump.more(9, 1, 0, 1, 0, 1));
        all.add(() -> pump.rate(9, 1, 5));
        for (int c : new int[] {MIN, -1, 3, MAX}) {
            all.add(() -> pump.flow(c, 0));
            all.add(() -> pump.air(c, true));
            all.add(() -> pump.door(c, true));
            all.add(() -> pump.channel(c, 0));
            all.add(() -> pump.entry(c));
        }
        for (int what : new int[] {MIN, -1, 15, MAX}) {
            all.add(() -> pump.about(what));
            all.add(() -> pump.channel(0, what));
            all.add(() -> pump.log(0, what));
            all.add(() -> pump.log(what == 15 ? 500 : what, 0));
        }
        all.add(() -> pump.about(5));
        all.add(() -> pump.log(0, 4));
        return all;
    }

    private static List<Runnable> arguments(DosePump pump) {
        List<Runnable> all = new ArrayList<>();
        for (int x : new int[] {MIN, -1, MAX}) {
            all.add(() -> pump.drug(2, x, 1, 1, 1, 1, 1));
            all.add(() -> pump.drug(2, 0, x, 1, 1, 1, 1));
            all.add(() -> pump.drug(2, 0, 1, x, x, x, x));
            all.add(() -> pump.more(2, x, 0, 1, 0, 1));
            all.add(() -> pump.more(2, 1, x, 1, 0, 1));
            all.add(() -> pump.more(2, 1, 0, x, 0, 1));
            all.add(() -> pump.more(2, 1, 0, 1, x, 1));
            all.add(() -> pump.more(2, 1, 0, 1, 0, x));
            all.add(() -> pump.flow(0, x));
            all.add(() -> pump.key(x));
            all.add(() -> pump.ticks(x));
            all.add(() -> pump.rate(2, x, 5));
            all.add(() -> pump.rate(2, 1, x));
        }
        all.add(() -> pump.key(22));
        all.add(() -> pump.ticks(601));
        all.add(() -> pump.flow(0, 1001));
        return all;
    }

    private static List<Runnable> states(DosePump pump) {
        List<Runnable> all = new ArrayList<>();
        all.add(() -> pump.drug(0, 1, 7, 2, 3, 4, 5));
        all.add(() -> pump.more(0, 1, 7, 3, 5, 2));
        return all;
    }

    /** A pump whose channel 0 is in a phase with drug 0 in its program or entry, and drug 2 told and free. */
    private static DosePump at(int phase) {
        DosePump pump = new DosePump();
        pump.drug(0, 0, 1, 10, 20, 30, 5000);
        pump.drug(2, 1, 100, 1, 10, 500, 900);
        pump.more(2, 30, 5, 2, 3, 4);
        pump.more(0, 100, 9, 2, 3, 4);
        pump.mains(false);
        pump.flow(1, 17);
        pump.air(1, true);
        pump.door(2, true);
        String[] ways = {"", "", "", "B0E", "B0E2E", "B0E1E", "B0E2E0E", "B0E36EO5ER", "B0E36EO5ERS"};
        Keys.press(pump, "BS" + ways[phase]);
        Due.is("phase", pump.channel(0, 0), phase);
        return pump;
    }

    /** The drugs and lines show in what follows: their limits, boluses, pressure, air, doors. */
    private static String course(DosePump pump) {
        StringBuilder all = new StringBuilder(Keys.state(pump));
        all.append(Keys.answers(pump, "SSB0E0.9E36EO0ERPNB2E70E0.05EO0ERPNB2E70E0.1E0ER"));
        all.append(pump.rate(0, 100, 700)).append(pump.rate(2, 100, 700));
        all.append(pump.flow(0, 0)).append(pump.flow(1, 0)).append(pump.flow(2, 0));
        all.append(pump.air(0, true)).append(pump.air(1, false)).append(pump.air(2, true));
        all.append(pump.door(0, false)).append(pump.door(1, false)).append(pump.door(2, false));
        all.append(Keys.answers(pump, "R")).append(pump.mains(true));
        for (int i = 0; i < 4; i++) {
            all.append(pump.ticks(12)).append(Keys.answers(pump, "PNPNPN")).append(Keys.state(pump).hashCode());
        }
        return all.toString();
    }

    private static void changesNothing() {
        Due.sentence("A call that throws changes nothing");
        for (int phase : new int[] {0, 3, 4, 5, 6, 7, 8}) {
            DosePump pump = at(phase);
            allOf("index", indexes(pump), IndexOutOfBoundsException.class);
            allOf("argument", arguments(pump), IllegalArgumentException.class);
            if (phase > 0) {
                allOf("state", states(pump), IllegalStateException.class);
            }
            Due.same("what follows, from phase " + phase, course(pump), course(at(phase)));
        }
    }

    private static void allOf(String name, List<Runnable> calls, Class<? extends RuntimeException> due) {
        for (int i = 0; i < calls.size(); i++) {
            Due.fails(name + " " + i, due, calls.get(i));
        }
    }

    private static void firstOneNamed() {
        Due.sentence("the first one named is thrown");
        DosePump pump = at(7);
        for (int d : new int[] {-1, 16}) {
            Due.index("drug " + d + ", of no kind", () -> pump.drug(d, 2, 0, 0, 0, 0, 0));
            Due.index("more " + d + ", without a limit", () -> pump.more(d, 0, -1, 0, -1, 0));
            Due.index("rate " + d + ", of no amount", () -> pump.rate(d, 0, 0));
        }
        Due.index("more of one that was not told", () -> pump.more(1, 0, -1, 0, -1, 0));
        Due.index("rate of one that was not told", () -> pump.rate(1, 0, 0));
        Due.index("flow of no channel", () -> pump.flow(3, 1001));
        Due.argument("drug in use, of no kind", () -> pump.drug(0, 2, 1, 1, 1, 1, 1));
        Due.argument("drug in use, no strength", () -> pump.drug(0, 0, 0, 1, 1, 1, 1));
        Due.argument("drug in use, amounts", () -> pump.drug(0, 0, 1, 2, 1, 1, 1));
        Due.argument("more of one in use, limit", () -> pump.more(0, 0, 0, 1, 0, 1));
        Due.argument("more of one in use, many", () -> pump.more(0, 1, 0, 1, 0, 21));
        Due.state("drug in use", () -> pump.drug(0, 0, 1, 1, 1, 1, 1));
        Due.state("more of one in use", () -> pump.more(0, 1, 0, 1, 0, 1));
        pump.drug(2, 0, 1, 1, 1, 1, 1);
        pump.more(2, 1, 0, 1, 0, 1);
    }
}
