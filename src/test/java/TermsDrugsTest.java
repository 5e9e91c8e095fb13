/** The edges that 'Terms' names for time, rates and drugs, sentence by sentence. */
public final class TermsDrugsTest {
    public static void main(String[] args) {
        callsOfAnObject();
        ratesOfKind0();
        ratesOfKind1();
        drugNumbers();
        kinds();
        halvesUp();
        order();
        noBolus();
        Due.end();
    }

    private static void callsOfAnObject() {
        Due.sentence("An object is used for at most 512 calls after it has been made");
        DosePump pump = new DosePump();
        pump.drug(0, 0, 1, 1, 1, 99999, 99999);
        Keys.press(pump, "B0E999.9E0ER");
        int calls = 1 + "B0E999.9E0ER".length();
        long made = 0;
        for (; calls < 508; calls++) {
            made += pump.ticks(600);
        }
        long time = 600L * (508 - 1 - "B0E999.9E0ER".length());
        Due.is("strokes that ticks answered", made, 9999 * time / 360);
        Due.is("call 509, time", pump.about(0), time);
        Due.is("call 510, strokes in all", pump.channel(0, 14), made);
        Due.is("call 511, strokes of the latest 3600 ticks", pump.channel(0, 7), 99990);
        Due.is("call 512, DEBT", pump.channel(0, 5), 9999 * time % 360);
    }

    private static void ratesOfKind0() {
        Due.sentence("RATES in tenths of a millilitre an hour, 1 .. 9999");
        String[] amounts = {"0", "0.1", "0.2", "999.8", "999.9", "1000"};
        int[] rates = {0, 1, 2, 9998, 9999, 0};
        for (int i = 0; i < amounts.length; i++) {
            DosePump pump = Keys.pump();
            Due.is(amounts[i], Keys.press(pump, "B0E" + amounts[i] + "E"), rates[i] == 0 ? DosePump.HARD : 4);
            Keys.press(pump, "0E");
            Due.is("rate of " + amounts[i], pump.channel(0, 2), rates[i]);
        }
    }

    private static void ratesOfKind1() {
        Due.sentence("RATES in tenths of a millilitre an hour, 1 .. 9999 (of a dose)");
        rateOfDose(3, "0.5", "0.01", 1);
        rateOfDose(3, "0.5", "99.98", 9998);
        rateOfDose(3, "0.5", "99.99", 9999);
        rateOfDose(3, "0.5", "100", 0);
        rateOfDose(6, "0.5", "0.01", 1);
        rateOfDose(7, "0.5", "0.01", 0);
        rateOfDose(7, "0.6", "0.01", 1);
        rateOfDose(6, "0.5", "199.97", 9999);
        rateOfDose(6, "0.5", "199.98", 9999);
        rateOfDose(6, "0.5", "199.99", 0);
        rateOfDose(1, "300", "999.99", 0);
        rateOfDose(10000, "300", "555.52", 9999);
        rateOfDose(10000, "300", "555.53", 0);
    }

    private static void rateOfDose(int strength, String weight, String dose, int due) {
        DosePump pump = new DosePump();
        pump.drug(0, 1, strength, 1, 1, 99999, 99999);
        String call = strength + " " + weight + " " + dose;
        Due.is(call, Keys.press(pump, "B0E" + weight + "E" + dose + "E"), due == 0 ? DosePump.HARD : 4);
        Keys.press(pump, "0E");
        Due.is("rate of " + call, pump.channel(0, 2), due);
    }

    private static void drugNumbers() {
        Due.sentence("DRUGS 0 .. 15 that were told");
        DosePump pump = new DosePump();
        for (int d : new int[] {-1, 16}) {
            Due.index("drug " + d, () -> pump.drug(d, 0, 1, 1, 1, 1, 1));
        }
        for (int d : new int[] {0, 1, 14, 15}) {
            Due.index("rate of " + d + " before", () -> pump.rate(d, 1, 5));
            Due.is("DRUG " + d + " before", Keys.press(pump, "B" + d + "E"), -1);
            Keys.press(pump, "S");
            pump.drug(d, 0, 1, 1, 1, 1, 1);
            Due.is("rate of " + d, pump.rate(d, 1, 5), 1);
            Due.is("DRUG " + d, Keys.press(pump, "B" + d + "E"), 3);
            Keys.press(pump, "S");
        }
        Due.is("DRUG 16", Keys.press(pump, "B16E"), -1);
        Due.is("DRUG 2, never told", Keys.press(pump, "C2E"), -1);
    }

    private static void kinds() {
        Due.sentence("a KIND: 0, their AMOUNT is the rate itself; 1, it is a dose");
        DosePump pump = new DosePump();
        Due.argument("kind -1", () -> pump.drug(0, -1, 50, 1, 1, 9, 9));
        pump.drug(0, 0, 50, 1, 1, 9, 9);
        pump.drug(1, 1, 50, 1, 1, 9, 9);
        Due.argument("kind 2", () -> pump.drug(0, 2, 50, 1, 1, 9, 9));
        Due.is("of kind 0", pump.rate(0, 100, 700), 100);
        Due.is("of kind 1", pump.rate(1, 100, 700), 840);
    }

    private static void halvesUp() {
        Due.sentence("dose * weight * 3 / (5 * strength), rounded to the nearest, halves up");
        DosePump pump = new DosePump();
        pump.drug(0, 1, 6, 1, 1, 1, 1);
        int[] halves = {0, 1, 1, 2, 2, 3, 3, 4};
        for (int dose = 1; dose < halves.length; dose++) {
            Due.is(dose + " halves", pump.rate(0, dose, 5), halves[dose]);
        }
        pump.drug(1, 1, 10000, 1, 1, 1, 1);
        Due.is("24999 / 50000", pump.rate(1, 641, 13), 0);
        Due.is("25002 / 50000", pump.rate(1, 1389, 6), 1);
        Due.is("74997 / 50000", pump.rate(1, 1923, 13), 1);
        Due.is("75000 / 50000", pump.rate(1, 5000, 5), 2);
        Due.is("75003 / 50000", pump.rate(1, 1087, 23), 2);
        Due.is("899991000 / 50000", pump.rate(1, 99999, 3000), 18000);
    }

    private static void order() {
        Due.sentence("HARD LOW <= SOFT LOW <= SOFT HIGH <= HARD HIGH");
        int[] base = {10, 20, 30, 40};
        DosePump pump = new DosePump();
        for (int i = 0; i < 3; i++) {
            int[] less = base.clone();
            int[] equal = base.clone();
            int[] greater = base.clone();
            less[i] = base[i + 1] - 1;
            equal[i] = base[i + 1];
            greater[i] = base[i + 1] + 1;
            pump.drug(i, 0, 1, less[0], less[1], less[2], less[3]);
            pump.drug(i, 0, 1, equal[0], equal[1], equal[2], equal[3]);
            Due.argument("amount " + i + " above the next one",
                () -> pump.drug(5, 0, 1, greater[0], greater[1], greater[2], greater[3]));
        }
        Due.argument("only the outer ones in order", () -> pump.drug(5, 0, 1, 10, 50, 5, 40));
        Due.index("drug 5 was not told", () -> pump.rate(5, 1, 5));
        pump.drug(5, 0, 1, 7, 7, 7, 7);
        Due.same("all of them equal", Keys.answers(pump, "B5E0.6E0.8E0.7E"), "1 1 3 3 3 3 -2 3 3 3 -2 3 3 3 4");
    }

    private static void noBolus() {
        Due.sentence("a BOLUS in strokes (0: none)");
        for (int bolus = 0; bolus <= 2; bolus++) {
            DosePump pump = Keys.pump();
            pump.more(0, 100000, bolus, 30, 0, 20);
            Keys.press(pump, "B0E0.1E0ER");
            Due.is("a bolus of " + bolus, Keys.press(pump, "P"), bolus == 0 ? -1 : 7);
            Due.is("what is left of it", pump.channel(0, 6), bolus);
            Due.is("its strokes", pump.ticks(3), bolus);
        }
    }
}
