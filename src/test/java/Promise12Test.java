/** entry */
public final class Promise12Test {
    public static void main(String[] args) {
        withoutEntry();
        Due.sentence("IndexOutOfBoundsException: there is no such what");
        DosePump pump = Keys.pump();
        for (int what : new int[] {Integer.MIN_VALUE, -1, 3, Integer.MAX_VALUE}) {
            Due.index("entry(" + what + ")", () -> pump.entry(what));
        }
        Due.is("entry(0)", pump.entry(0), 0);
        Due.is("entry(2)", pump.entry(2), 0);
        Due.sentence("Of the chosen channel's entry: 0 its number, 1 how many figures and points it has, 2 ticks");
        number(pump, "B", 0, 0);
        number(pump, "1", 1, 1);
        number(pump, "E", 0, 0);
        number(pump, "7", 70, 1);
        number(pump, ".", 70, 2);
        number(pump, "0", 70, 3);
        number(pump, "C", 0, 0);
        number(pump, "70E", 0, 0);
        number(pump, "0", 0, 1);
        number(pump, ".", 0, 2);
        number(pump, "0", 0, 3);
        number(pump, "5", 5, 4);
        number(pump, "C12.3", 1230, 4);
        number(pump, "C9999.99", 999999, 7);
        number(pump, "E", 0, 0);
        number(pump, "1E", 0, 0);
        number(pump, "12.5", 125, 4);
        pump.ticks(20);
        Due.is("ticks", pump.entry(2), 20);
        Keys.press(pump, "AQP");
        Due.is("keys that do not count", pump.entry(2), 20);
        Keys.press(pump, "B");
        Due.is("refused", pump.entry(2), 20);
        Keys.press(pump, "N");
        Due.is("of another channel", pump.entry(2), 0);
        Due.is("it has no number", pump.entry(0), 0);
        Keys.press(pump, "NN");
        Due.is("of this channel", pump.entry(2), 20);
        Due.is("it has its number", pump.entry(0), 125);
        Keys.press(pump, "C");
        Due.is("a key that counts", pump.entry(2), 0);
        pump.ticks(59);
        Due.is("ticks", pump.entry(2), 59);
        pump.ticks(1);
        Due.is("without an entry", pump.entry(2), 0);
        Due.is("it is IDLE", pump.channel(0, 0), 0);
        Keys.press(pump, "B");
        Due.is("a new entry", pump.entry(2), 0);
        number(pump, "0E36", 360, 2);
        Due.end();
    }

    private static void withoutEntry() {
        Due.sentence("0 its number (0 without one), 2 ticks since the latest key that counts (0 without an entry)");
        for (int phase = 0; phase <= 8; phase++) {
            boolean has = phase >= 1 && phase <= 5;
            DosePump pump = Keys.inPhase(phase);
            pump.ticks(7);
            Due.is("number in " + phase, pump.entry(0), 0);
            Due.is("length in " + phase, pump.entry(1), 0);
            Due.is("ticks in " + phase, pump.entry(2), has ? 7 : 0);
            Keys.press(pump, "N");
            Due.is("ticks of another", pump.entry(2), 0);
        }
    }

    private static void number(DosePump pump, String keys, int number, int length) {
        Keys.press(pump, keys);
        Due.is("number behind " + keys, pump.entry(0), number);
        Due.is("length behind " + keys, pump.entry(1), length);
    }
}
