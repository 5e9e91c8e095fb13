/** drug */
public final class Promise02Test {
    public static void main(String[] args) {
        edges();
        numbersOfDrugs();
        kinds();
        strengths();
        amounts();
        wrongOnes();
        firstOneNamed();
        inUse();
        toldAnew();
        Due.end();
    }

    private static void edges() {
        Due.sentence("Drug d is told, or told anew");
        DosePump pump = new DosePump();
        pump.drug(0, 0, 1, 1, 1, 1, 1);
        pump.drug(15, 1, 10000, 99999, 99999, 99999, 99999);
        pump.drug(7, 1, 1, 1, 2, 3, 99999);
        Due.is("rate of drug 0", pump.rate(0, 77, 5), 77);
        Due.is("rate of drug 15", pump.rate(15, 50000, 1000), 3000);
        Due.is("rate of drug 7", pump.rate(7, 5, 5), 15);
        pump.drug(7, 0, 1, 1, 2, 3, 4);
        Due.is("rate of drug 7, told anew", pump.rate(7, 5, 5), 5);
        DosePump strong = new DosePump();
        strong.drug(0, 0, 10000, 1, 1, 99999, 99999);
        Due.is("strength does not matter", strong.rate(0, 5, 3000), 5);
    }

    private static void numbersOfDrugs() {
        Due.sentence("IndexOutOfBoundsException: there is no such drug");
        DosePump pump = new DosePump();
        Due.index("drug -1", () -> pump.drug(-1, 0, 1, 1, 1, 1, 1));
        Due.index("drug 16", () -> pump.drug(16, 0, 1, 1, 1, 1, 1));
        for (int d = 0; d <= 15; d++) {
            pump.drug(d, 0, 1, 1, 1, 1, 1);
            Due.is("drug " + d + " is told", pump.rate(d, 3, 5), 3);
        }
    }

    private static void kinds() {
        Due.sentence("kind 0 or 1");
        DosePump pump = new DosePump();
        Due.argument("kind -1", () -> pump.drug(0, -1, 1, 1, 1, 1, 1));
        pump.drug(0, 0, 1, 1, 1, 1, 1);
        pump.drug(0, 1, 1, 1, 1, 1, 1);
        Due.argument("kind 2", () -> pump.drug(0, 2, 1, 1, 1, 1, 1));
        Due.is("it is of kind 1", pump.rate(0, 5, 5), 15);
    }

    private static void strengths() {
        Due.sentence("strength 1 .. 10000 (of kind 0 it does not matter, but has to be so)");
        for (int kind = 0; kind <= 1; kind++) {
            int k = kind;
            DosePump pump = new DosePump();
            for (int wrong : new int[] {-1, 0, 10001}) {
                Due.argument("strength " + wrong, () -> pump.drug(0, k, wrong, 1, 1, 1, 1));
                Due.index("drug 0 is not told by it", () -> pump.rate(0, 1, 5));
            }
            int[] strengths = {1, 2, 9999, 10000};
            int[] rates = {60000, 30000, 6, 6};
            for (int i = 0; i < strengths.length; i++) {
                pump.drug(i, k, strengths[i], 1, 1, 1, 1);
                Due.is("strength " + strengths[i], pump.rate(i, 100, 1000), k == 0 ? 100 : rates[i]);
            }
        }
    }

    private static void amounts() {
        Due.sentence("the four amounts, 1 .. 99999, in their order");
        DosePump pump = new DosePump();
        pump.drug(1, 0, 1, 1, 1, 1, 1);
        pump.drug(1, 0, 1, 1, 1, 1, 99999);
        pump.drug(1, 0, 1, 99999, 99999, 99999, 99999);
        for (int wrong : new int[] {-1, 0}) {
            Due.argument("HARD LOW " + wrong, () -> pump.drug(0, 0, 1, wrong, 1, 1, 1));
            Due.argument("SOFT LOW " + wrong, () -> pump.drug(0, 0, 1, wrong, wrong, 1, 1));
            Due.argument("SOFT HIGH " + wrong, () -> pump.drug(0, 0, 1, wrong, wrong, wrong, 1));
            Due.argument("HARD HIGH " + wrong, () -> pump.drug(0, 0, 1, wrong, wrong, wrong, wrong));
        }
        Due.argument("HARD HIGH 100000", () -> pump.drug(0, 0, 1, 1, 1, 1, 100000));
        Due.argument("SOFT HIGH 100000", () -> pump.drug(0, 0, 1, 1, 1, 100000, 100000));
        Due.argument("SOFT LOW 100000", () -> pump.drug(0, 0, 1, 1, 100000, 100000, 100000));
        Due.argument("HARD LOW 100000", () -> pump.drug(0, 0, 1, 100000, 100000, 100000, 100000));
        Due.argument("SOFT LOW below HARD LOW", () -> pump.drug(0, 0, 1, 2, 1, 2, 2));
        Due.argument("SOFT HIGH below SOFT LOW", () -> pump.drug(0, 0, 1, 2, 2, 1, 2));
        Due.argument("HARD HIGH below SOFT HIGH", () -> pump.drug(0, 0, 1, 2, 2, 2, 1));
        Due.index("drug 0 is not told by them", () -> pump.rate(0, 1, 5));
    }

    private static void wrongOnes() {
        Due.sentence("IllegalArgumentException: a number is not as told");
        DosePump pump = new DosePump();
        int[][] wrong = {
            {-1, 1, 1, 1, 1, 1}, {2, 1, 1, 1, 1, 1}, {0, 0, 1, 1, 1, 1}, {0, 10001, 1, 1, 1, 1}, {1, 0, 1, 1, 1, 1},
            {0, 1, 0, 1, 1, 1}, {0, 1, -5, 1, 1, 1}, {0, 1, 2, 1, 3, 3}, {0, 1, 1, 3, 2, 3}, {0, 1, 1, 1, 3, 2},
            {0, 1, 1, 1, 1, 100000}, {0, 1, 100000, 100000, 100000, 100000},
            {0, 1, 0, 0, 0, 0}, {0, 1, 1, 1, 1, Integer.MIN_VALUE}, {0, 1, Integer.MAX_VALUE, 1, 1, 1},
        };
        for (int[] w : wrong) {
            Due.argument("drug(0," + java.util.Arrays.toString(w),
                () -> pump.drug(0, w[0], w[1], w[2], w[3], w[4], w[5]));
        }
        Due.index("drug 0 is not told by it", () -> pump.rate(0, 1, 5));
        Due.index("drug(-1)", () -> pump.drug(-1, 0, 1, 1, 1, 1, 1));
        Due.index("drug(16)", () -> pump.drug(16, 0, 1, 1, 1, 1, 1));
        Due.index("drug(min)", () -> pump.drug(Integer.MIN_VALUE, 0, 1, 1, 1, 1, 1));
    }

    private static void firstOneNamed() {
        Due.sentence("the first one named is thrown");
        DosePump pump = Keys.running("36", "0");
        Due.index("index before argument", () -> pump.drug(16, 9, 0, 0, 0, 0, 0));
        Due.argument("argument before state", () -> pump.drug(0, 9, 1, 1, 1, 1, 1));
        Due.state("state", () -> pump.drug(0, 0, 1, 1, 1, 1, 1));
    }

    private static void inUse() {
        Due.sentence("IllegalStateException when a channel's program or entry has this drug");
        DosePump pump = Keys.pump();
        Keys.press(pump, "B0");
        pump.drug(0, 0, 1, 1, 5, 99999, 99999);
        Keys.press(pump, "E");
        Due.state("entry in AMOUNT", () -> pump.drug(0, 0, 1, 1, 1, 1, 1));
        Keys.press(pump, "S");
        pump.drug(0, 0, 1, 1, 5, 99999, 99999);
        Keys.press(pump, "B0E0.3E");
        Due.is("SOFT", pump.channel(0, 0), 5);
        Due.state("entry in SOFT", () -> pump.drug(0, 0, 1, 1, 1, 1, 1));
        Keys.press(pump, "O");
        Due.state("entry in VOLUME", () -> pump.drug(0, 0, 1, 1, 1, 1, 1));
        Keys.press(pump, "0E");
        Due.state("READY", () -> pump.drug(0, 0, 1, 1, 1, 1, 1));
        Keys.press(pump, "R");
        Due.state("RUNS", () -> pump.drug(0, 0, 1, 1, 1, 1, 1));
        Keys.press(pump, "S");
        Due.state("HOLDS", () -> pump.drug(0, 0, 1, 1, 1, 1, 1));
        Keys.press(pump, "B1E");
        Due.state("the program's, under an entry", () -> pump.drug(0, 0, 1, 1, 1, 1, 1));
        Due.state("the entry's, in WEIGHT", () -> pump.drug(1, 0, 1, 1, 1, 1, 1));
        Keys.press(pump, "70E1E0E");
        pump.drug(0, 0, 1, 1, 1, 1, 1);
        Due.state("the new program's", () -> pump.drug(1, 0, 1, 1, 1, 1, 1));
        Keys.press(pump, "NNB0E");
        Due.state("of channel 2", () -> pump.drug(0, 0, 1, 1, 1, 1, 1));
        pump.ticks(60);
        pump.drug(0, 0, 1, 1, 1, 1, 1);
    }

    private static void toldAnew() {
        Due.sentence("or told anew; its bolus 0, pace 1, lockout 0, in an hour 1");
        DosePump pump = Keys.pump();
        pump.more(0, 3, 10, 5, 7, 2);
        pump.drug(0, 0, 1, 1, 1, 99999, 99999);
        Keys.press(pump, "B0E36E0ER");
        Due.is("no bolus", Keys.press(pump, "P"), -1);
        Due.is("no small limit", pump.ticks(600), 600);
        DosePump amounts = new DosePump();
        amounts.drug(3, 1, 50, 10, 20, 30, 40);
        amounts.drug(3, 0, 1, 5, 6, 7, 8);
        Due.same("its amounts and its kind", Keys.answers(amounts, "B3E0.4E0.5E"), "1 1 3 3 3 3 -2 3 3 3 5");
    }
}
