/** log */
public final class Promise14Test {
    public static void main(String[] args) {
        whats();
        kinds();
        latest();
        Due.end();
    }

    private static void kinds() {
        Due.sentence("THE LOG: the KINDS of its entries");
        DosePump pump = Keys.pump();
        pump.more(1, 100000, 8, 4, 10, 1);
        pump.ticks(3);
        Keys.press(pump, "NB1E70E9.01E");
        entry(pump, 0, "3 1 1 901");
        Keys.press(pump, "0.05EO");
        entry(pump, 1, "3 2 1 5");
        pump.ticks(2);
        Keys.press(pump, "0E");
        entry(pump, 2, "5 0 1 42");
        Keys.press(pump, "R");
        entry(pump, 3, "5 3 1 42");
        Keys.press(pump, "P");
        entry(pump, 4, "5 5 1 8");
        pump.ticks(2);
        Keys.press(pump, "P");
        entry(pump, 5, "7 6 1 0");
        Keys.press(pump, "S");
        entry(pump, 6, "7 4 1 8");
        Keys.press(pump, "R");
        pump.door(1, true);
        entry(pump, 8, "7 7 1 2");
        pump.door(1, false);
        Keys.press(pump, "A");
        entry(pump, 9, "7 8 1 2");
        Keys.press(pump, "B1EC");
        entry(pump, 10, "7 9 1 2");
        Due.is("entries", pump.about(4), 11);
        Due.index("entry 11", () -> pump.log(11, 0));
        Due.index("entry -1", () -> pump.log(-1, 0));
        Due.index("what -1", () -> pump.log(0, -1));
        Due.index("what 4", () -> pump.log(0, 4));
        Due.index("entry min", () -> pump.log(Integer.MIN_VALUE, 0));
        Due.index("entry max", () -> pump.log(Integer.MAX_VALUE, 0));
        entry(pump, 0, "3 1 1 901");
    }

    private static void entry(DosePump pump, int i, String due) {
        Due.same("entry " + i, Keys.logged(pump, i), due);
    }

    private static void whats() {
        Due.sentence("Of entry i of the log: 0 time, 1 kind, 2 channel, 3 number");
        DosePump pump = Keys.pump();
        pump.ticks(4);
        Keys.press(pump, "NB1EC");
        int[] due = {4, 9, 1, 2};
        for (int what = 0; what < due.length; what++) {
            Due.is("what " + what, pump.log(0, what), due[what]);
        }
        for (int what : new int[] {Integer.MIN_VALUE, -1, 4, Integer.MAX_VALUE}) {
            Due.index("what " + what, () -> pump.log(0, what));
        }
    }

    private static void latest() {
        Due.sentence("IndexOutOfBoundsException (also when it is not among the latest 64)");
        DosePump pump = new DosePump();
        for (int i = 0; i < 64; i++) {
            pump.ticks(1);
            Keys.press(pump, "BS");
        }
        entry(pump, 0, "1 9 0 1");
        pump.ticks(1);
        Keys.press(pump, "BS");
        Due.index("entry 0 of 65", () -> pump.log(0, 0));
        entry(pump, 1, "2 9 0 1");
        entry(pump, 64, "65 9 0 1");
        for (int i = 65; i < 130; i++) {
            pump.ticks(1);
            Keys.press(pump, "BS");
        }
        Due.index("entry 65 of 130", () -> pump.log(65, 0));
        for (int i = 66; i < 130; i++) {
            Due.is("time of entry " + i, pump.log(i, 0), i + 1);
        }
        Due.index("entry 130 of 130", () -> pump.log(130, 0));
    }
}
