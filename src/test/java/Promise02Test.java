/** drug */
public final class Promise02Test {
    public static void main(String[] args) {
        edges();
        wrongOnes();
        firstOneNamed();
        inUse();
        toldAnew();
        Due.end();
    }

    private static void edges() {
        DosePump pump = new DosePump();
        pump.drug(0, 0, 1, 1, 1, 1, 1);
        pump.drug(15, 1, 10000, 99999, 99999, 99999, 99999);
        pump.drug(7, 1, 1, 1, 2, 3, 99999);
        Due.is("rate of drug 0", pump.rate(0, 77, 5), 77);
        Due.is("rate of drug 15", pump.rate(15, 50000, 1000), 3000);
        Due.is("rate of drug 7", pump.rate(7, 5, 5), 15);
        pump.drug(7, 0, 1, 1, 2, 3, 4);
        Due.is("rate of drug 7, told anew", pump.rate(7, 5, 5), 5);
        DosePump strong = new DosePump();
        strong.drug(0, 0, 10000, 1, 1, 99999, 99999);
        Due.is("strength does not matter", strong.rate(0, 5, 3000), 5);
    }

    private static void wrongOnes() {
        DosePump pump = new DosePump();
        int[][] wrong = {
            {-1, 1, 1, 1, 1, 1}, {2, 1, 1, 1, 1, 1}, {0, 0, 1, 1, 1, 1}, {0, 10001, 1, 1, 1, 1}, {1, 0, 1, 1, 1, 1},
            {0, 1, 0, 1, 1, 1}, {0, 1, -5, 1, 1, 1}, {0, 1, 2, 1, 3, 3}, {0, 1, 1, 3, 2, 3}, {0, 1, 1, 1, 3, 2},
            {0, 1, 1, 1, 1, 100000}, {0, 1, 100000, 100000, 100000, 100000},
            {0, 1, 0, 0, 0, 0}, {0, 1, 1, 1, 1, Integer.MIN_VALUE}, {0, 1, Integer.MAX_VALUE, 1, 1, 1},
        };
        for (int[] w : wrong) {
            Due.argument("drug(0," + java.util.Arrays.toString(w),
                () -> pump.drug(0, w[0], w[1], w[2], w[3], w[4], w[5]));
        }
        Due.index("drug 0 is not told by it", () -> pump.rate(0, 1, 5));
        Due.index("drug(-1)", () -> pump.drug(-1, 0, 1, 1, 1, 1, 1));
        Due.index("drug(16)", () -> pump.drug(16, 0, 1, 1, 1, 1, 1));
        Due.index("drug(min)", () -> pump.drug(Integer.MIN_VALUE, 0, 1, 1, 1, 1, 1));
    }

    private static void firstOneNamed() {
        DosePump pump = Keys.running("36", "0");
        Due.index("index before argument", () -> pump.drug(16, 9, 0, 0, 0, 0, 0));
        Due.argument("argument before state", () -> pump.drug(0, 9, 1, 1, 1, 1, 1));
        Due.state("state", () -> pump.drug(0, 0, 1, 1, 1, 1, 1));
    }

    private static void inUse() {
        DosePump pump = Keys.pump();
        Keys.press(pump, "B0");
        pump.drug(0, 0, 1, 1, 5, 99999, 99999);
        Keys.press(pump, "E");
        Due.state("entry in AMOUNT", () -> pump.drug(0, 0, 1, 1, 1, 1, 1));
        Keys.press(pump, "S");
        pump.drug(0, 0, 1, 1, 5, 99999, 99999);
        Keys.press(pump, "B0E0.3E");
        Due.is("SOFT", pump.channel(0, 0), 5);
        Due.state("entry in SOFT", () -> pump.drug(0, 0, 1, 1, 1, 1, 1));
        Keys.press(pump, "O");
        Due.state("entry in VOLUME", () -> pump.drug(0, 0, 1, 1, 1, 1, 1));
        Keys.press(pump, "0E");
        Due.state("READY", () -> pump.drug(0, 0, 1, 1, 1, 1, 1));
        Keys.press(pump, "R");
        Due.state("RUNS", () -> pump.drug(0, 0, 1, 1, 1, 1, 1));
        Keys.press(pump, "S");
        Due.state("HOLDS", () -> pump.drug(0, 0, 1, 1, 1, 1, 1));
        Keys.press(pump, "B1E");
        Due.state("the program's, under an entry", () -> pump.drug(0, 0, 1, 1, 1, 1, 1));
        Due.state("the entry's, in WEIGHT", () -> pump.drug(1, 0, 1, 1, 1, 1, 1));
        Keys.press(pump, "70E1E0E");
        pump.drug(0, 0, 1, 1, 1, 1, 1);
        Due.state("the new program's", () -> pump.drug(1, 0, 1, 1, 1, 1, 1));
        Keys.press(pump, "NNB0E");
        Due.state("of channel 2", () -> pump.drug(0, 0, 1, 1, 1, 1, 1));
        pump.ticks(60);
        pump.drug(0, 0, 1, 1, 1, 1, 1);
    }

    private static void toldAnew() {
        DosePump pump = Keys.pump();
        pump.more(0, 3, 10, 5, 7, 2);
        pump.drug(0, 0, 1, 1, 1, 99999, 99999);
        Keys.press(pump, "B0E36E0ER");
        Due.is("no bolus", Keys.press(pump, "P"), -1);
        Due.is("no small limit", pump.ticks(600), 600);
    }
}
