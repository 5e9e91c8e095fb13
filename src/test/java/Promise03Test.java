/** more */
public final class Promise03Test {
    public static void main(String[] args) {
        wrongOnes();
        firstOneNamed();
        edges();
        inUse();
        Due.end();
    }

    private static void wrongOnes() {
        DosePump pump = Keys.pump();
        int[][] wrong = {
            {0, 0, 1, 0, 1}, {100001, 0, 1, 0, 1}, {-1, 0, 1, 0, 1}, {1, -1, 1, 0, 1}, {1, 5001, 1, 0, 1},
            {1, 0, 0, 0, 1}, {1, 0, 31, 0, 1}, {1, 0, 1, -1, 1}, {1, 0, 1, 3601, 1}, {1, 0, 1, 0, 0}, {1, 0, 1, 0, 21},
        };
        for (int[] w : wrong) {
            Due.argument("more(0," + java.util.Arrays.toString(w), () -> pump.more(0, w[0], w[1], w[2], w[3], w[4]));
        }
        Keys.press(pump, "B0E36E0ER");
        Due.is("nothing was changed by them", pump.ticks(100), 100);
        Due.is("nor the bolus", Keys.press(pump, "P"), -1);
        Due.index("more(-1)", () -> pump.more(-1, 1, 0, 1, 0, 1));
        Due.index("more(16)", () -> pump.more(16, 1, 0, 1, 0, 1));
        Due.index("more(2), not told", () -> pump.more(2, 1, 0, 1, 0, 1));
    }

    private static void firstOneNamed() {
        DosePump pump = Keys.running("36", "0");
        Due.index("index before argument", () -> pump.more(2, 0, 0, 1, 0, 1));
        Due.argument("argument before state", () -> pump.more(0, 0, 0, 1, 0, 1));
        Due.state("state", () -> pump.more(0, 1, 0, 1, 0, 1));
    }

    private static void edges() {
        DosePump pump = Keys.pump();
        pump.more(0, 1, 0, 1, 0, 1);
        pump.more(0, 100000, 5000, 30, 3600, 20);
        Keys.press(pump, "B0E0.1E0ER");
        Due.is("a bolus", Keys.press(pump, "P"), 7);
        Due.is("its strokes", pump.channel(0, 6), 5000);
        Due.is("its pace", pump.ticks(1), 30);
        DosePump least = Keys.pump();
        least.more(0, 1, 1, 1, 0, 1);
        Keys.press(least, "B0E36E0ER");
        Due.is("one stroke in an hour", least.ticks(600), 1);
    }

    private static void inUse() {
        DosePump pump = Keys.pump();
        Keys.press(pump, "B1");
        pump.more(1, 1, 0, 1, 0, 1);
        Keys.press(pump, "E");
        Due.state("entry", () -> pump.more(1, 1, 0, 1, 0, 1));
        Keys.press(pump, "SB0E36E0E");
        pump.more(1, 1, 0, 1, 0, 1);
        Due.state("program", () -> pump.more(0, 1, 0, 1, 0, 1));
    }
}
