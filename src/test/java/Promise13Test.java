/** rate */
public final class Promise13Test {
    public static void main(String[] args) {
        amounts();
        weights();
        drugs();
        Due.sentence("The rate of an amount of a drug for a weight");
        DosePump pump = Keys.pump();
        int[] strengths = {1, 6, 7, 2, 10000};
        for (int i = 0; i < strengths.length; i++) {
            pump.drug(2 + i, 1, strengths[i], 1, 1, 1, 1);
        }
        Due.is("of kind 0", pump.rate(0, 1, 5), 1);
        Due.is("of kind 0, the greatest", pump.rate(0, 99999, 3000), 99999);
        Due.is("a dose", pump.rate(1, 100, 700), 840);
        Due.is("0.06", pump.rate(1, 1, 5), 0);
        Due.is("the greatest", pump.rate(2, 99999, 3000), 179998200);
        Due.is("0.5", pump.rate(3, 1, 5), 1);
        Due.is("0.43", pump.rate(4, 1, 5), 0);
        Due.is("0.51", pump.rate(4, 1, 6), 1);
        Due.is("1.5", pump.rate(5, 1, 5), 2);
        Due.is("1.8", pump.rate(5, 1, 6), 2);
        Due.is("2.1", pump.rate(5, 1, 7), 2);
        Due.is("17999.82", pump.rate(6, 99999, 3000), 18000);
        Due.argument("amount 0", () -> pump.rate(1, 0, 5));
        Due.argument("amount 100000", () -> pump.rate(1, 100000, 5));
        Due.argument("weight 4", () -> pump.rate(1, 1, 4));
        Due.argument("weight 3001", () -> pump.rate(1, 1, 3001));
        Due.argument("amount 0 of kind 0", () -> pump.rate(0, 0, 5));
        Due.argument("weight 4 of kind 0", () -> pump.rate(0, 1, 4));
        Due.argument("amount min", () -> pump.rate(1, Integer.MIN_VALUE, 5));
        Due.index("drug 9, not told", () -> pump.rate(9, 1, 5));
        Due.index("drug 16", () -> pump.rate(16, 1, 5));
        Due.index("drug -1, index before argument", () -> pump.rate(-1, 0, 0));
        Due.index("drug 9, index before argument", () -> pump.rate(9, 0, 0));
        Due.end();
    }

    private static void amounts() {
        Due.sentence("IllegalArgumentException when amount is not 1 .. 99999");
        DosePump pump = Keys.pump();
        int[] right = {1, 2, 99998, 99999};
        int[] doses = {0, 0, 6000, 6000};
        for (int i = 0; i < right.length; i++) {
            Due.is("amount " + right[i], pump.rate(0, right[i], 5), right[i]);
            Due.is("dose " + right[i], pump.rate(1, right[i], 5), doses[i]);
        }
        for (int d = 0; d <= 1; d++) {
            int drug = d;
            for (int wrong : new int[] {Integer.MIN_VALUE, -1, 0, 100000, Integer.MAX_VALUE}) {
                Due.argument("amount " + wrong + " of " + d, () -> pump.rate(drug, wrong, 5));
            }
        }
    }

    private static void weights() {
        Due.sentence("or weight not 5 .. 3000; (of kind 0 it does not matter)");
        DosePump pump = Keys.pump();
        int[] right = {5, 6, 2999, 3000};
        int[] rates = {60, 72, 35988, 36000};
        for (int i = 0; i < right.length; i++) {
            Due.is("weight " + right[i] + " of kind 0", pump.rate(0, 1000, right[i]), 1000);
            Due.is("weight " + right[i] + " of kind 1", pump.rate(1, 1000, right[i]), rates[i]);
        }
        for (int d = 0; d <= 1; d++) {
            int drug = d;
            for (int wrong : new int[] {Integer.MIN_VALUE, -5, 0, 4, 3001, Integer.MAX_VALUE}) {
                Due.argument("weight " + wrong + " of " + d, () -> pump.rate(drug, 1, wrong));
            }
        }
    }

    private static void drugs() {
        Due.sentence("IndexOutOfBoundsException (also of a drug that was not told)");
        DosePump pump = new DosePump();
        for (int d : new int[] {0, 15}) {
            Due.index("drug " + d + " before", () -> pump.rate(d, 1, 5));
            pump.drug(d, 0, 1, 1, 1, 1, 1);
            Due.is("drug " + d, pump.rate(d, 1, 5), 1);
        }
        for (int d : new int[] {Integer.MIN_VALUE, -1, 1, 14, 16, Integer.MAX_VALUE}) {
            Due.index("drug " + d, () -> pump.rate(d, 1, 5));
        }
    }
}
