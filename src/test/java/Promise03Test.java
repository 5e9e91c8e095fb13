/** more */
public final class Promise03Test {
    public static void main(String[] args) {
        eachNumber();
        drugsThatWereTold();
        wrongOnes();
        firstOneNamed();
        edges();
        inUse();
        Due.end();
    }

    private static void eachNumber() {
        Due.sentence("its hour's limit 1 .. 100000, bolus 0 .. 5000, pace 1 .. 30, lockout 0 .. 3600, "
            + "how many in an hour 1 .. 20");
        int[] low = {1, 0, 1, 0, 1};
        int[] high = {100000, 5000, 30, 3600, 20};
        for (int i = 0; i < low.length; i++) {
            DosePump pump = Keys.pump();
            for (int right : new int[] {low[i], low[i] + 1, high[i] - 1, high[i]}) {
                int[] w = {9, 9, 9, 9, 9};
                w[i] = right;
                pump.more(0, w[0], w[1], w[2], w[3], w[4]);
            }
            for (int wrong : new int[] {low[i] - 1, high[i] + 1, Integer.MIN_VALUE, Integer.MAX_VALUE}) {
                int[] w = {9, 9, 9, 9, 9};
                w[i] = wrong;
                Due.argument("number " + i + " is " + wrong, () -> pump.more(0, w[0], w[1], w[2], w[3], w[4]));
            }
        }
    }

    private static void drugsThatWereTold() {
        Due.sentence("IndexOutOfBoundsException (also of one that was not told)");
        DosePump pump = new DosePump();
        for (int d : new int[] {-1, 0, 14, 15, 16}) {
            Due.index("more of " + d, () -> pump.more(d, 1, 0, 1, 0, 1));
        }
        pump.drug(0, 0, 1, 1, 1, 1, 1);
        pump.drug(15, 0, 1, 1, 1, 1, 1);
        pump.more(0, 1, 0, 1, 0, 1);
        pump.more(15, 1, 0, 1, 0, 1);
        Due.index("more of 14", () -> pump.more(14, 1, 0, 1, 0, 1));
        Due.index("more of 16", () -> pump.more(16, 1, 0, 1, 0, 1));
    }

    private static void wrongOnes() {
        Due.sentence("IllegalArgumentException: a number is not as told");
        DosePump pump = Keys.pump();
        int[][] wrong = {
            {0, 0, 1, 0, 1}, {100001, 0, 1, 0, 1}, {-1, 0, 1, 0, 1}, {1, -1, 1, 0, 1}, {1, 5001, 1, 0, 1},
            {1, 0, 0, 0, 1}, {1, 0, 31, 0, 1}, {1, 0, 1, -1, 1}, {1, 0, 1, 3601, 1}, {1, 0, 1, 0, 0}, {1, 0, 1, 0, 21},
        };
        for (int[] w : wrong) {
            Due.argument("more(0," + java.util.Arrays.toString(w), () -> pump.more(0, w[0], w[1], w[2], w[3], w[4]));
        }
        Keys.press(pump, "B0E36E0ER");
        Due.is("nothing was changed by them", pump.ticks(100), 100);
        Due.is("nor the bolus", Keys.press(pump, "P"), -1);
        Due.index("more(-1)", () -> pump.more(-1, 1, 0, 1, 0, 1));
        Due.index("more(16)", () -> pump.more(16, 1, 0, 1, 0, 1));
        Due.index("more(2), not told", () -> pump.more(2, 1, 0, 1, 0, 1));
    }

    private static void firstOneNamed() {
        Due.sentence("the first one named is thrown");
        DosePump pump = Keys.running("36", "0");
        Due.index("index before argument", () -> pump.more(2, 0, 0, 1, 0, 1));
        Due.argument("argument before state", () -> pump.more(0, 0, 0, 1, 0, 1));
        Due.state("state", () -> pump.more(0, 1, 0, 1, 0, 1));
    }

    private static void edges() {
        Due.sentence("More of a drug (at the edges of its numbers)");
        DosePump pump = Keys.pump();
        pump.more(0, 1, 0, 1, 0, 1);
        pump.more(0, 100000, 5000, 30, 3600, 20);
        Keys.press(pump, "B0E0.1E0ER");
        Due.is("a bolus", Keys.press(pump, "P"), 7);
        Due.is("its strokes", pump.channel(0, 6), 5000);
        Due.is("its pace", pump.ticks(1), 30);
        DosePump least = Keys.pump();
        least.more(0, 1, 1, 1, 0, 1);
        Keys.press(least, "B0E36E0ER");
        Due.is("one stroke in an hour", least.ticks(600), 1);
    }

    private static void inUse() {
        Due.sentence("IllegalStateException likewise");
        for (int phase = 0; phase <= 8; phase++) {
            DosePump pump = Keys.inPhase(phase);
            for (int d = 0; d <= 1; d++) {
                int drug = d;
                boolean has = phase > 1 && (phase == 2 || phase == 5) == (d == 1);
                Runnable call = () -> pump.more(drug, 1, 0, 1, 0, 1);
                if (has) {
                    Due.state("more of " + d + " in phase " + phase, call);
                } else {
                    call.run();
                }
            }
        }
        DosePump pump = Keys.pump();
        Keys.press(pump, "B1");
        pump.more(1, 1, 0, 1, 0, 1);
        Keys.press(pump, "E");
        Due.state("entry", () -> pump.more(1, 1, 0, 1, 0, 1));
        Keys.press(pump, "SB0E36E0E");
        pump.more(1, 1, 0, 1, 0, 1);
        Due.state("program", () -> pump.more(0, 1, 0, 1, 0, 1));
    }
}
