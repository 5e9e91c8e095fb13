/** entry */
public final class Promise12Test {
    public static void main(String[] args) {
        DosePump pump = Keys.pump();
        Due.index("entry(-1)", () -> pump.entry(-1));
        Due.index("entry(3)", () -> pump.entry(3));
        number(pump, "B", 0, 0);
        number(pump, "1", 1, 1);
        number(pump, "E", 0, 0);
        number(pump, "7", 70, 1);
        number(pump, ".", 70, 2);
        number(pump, "0", 70, 3);
        number(pump, "C", 0, 0);
        number(pump, "70E", 0, 0);
        number(pump, "0", 0, 1);
        number(pump, ".", 0, 2);
        number(pump, "0", 0, 3);
        number(pump, "5", 5, 4);
        number(pump, "C12.3", 1230, 4);
        number(pump, "C9999.99", 999999, 7);
        number(pump, "E", 0, 0);
        number(pump, "1E", 0, 0);
        number(pump, "12.5", 125, 4);
        pump.ticks(20);
        Due.is("ticks", pump.entry(2), 20);
        Keys.press(pump, "AQP");
        Due.is("keys that do not count", pump.entry(2), 20);
        Keys.press(pump, "B");
        Due.is("refused", pump.entry(2), 20);
        Keys.press(pump, "N");
        Due.is("of another channel", pump.entry(2), 0);
        Due.is("it has no number", pump.entry(0), 0);
        Keys.press(pump, "NN");
        Due.is("of this channel", pump.entry(2), 20);
        Due.is("it has its number", pump.entry(0), 125);
        Keys.press(pump, "C");
        Due.is("a key that counts", pump.entry(2), 0);
        pump.ticks(59);
        Due.is("ticks", pump.entry(2), 59);
        pump.ticks(1);
        Due.is("without an entry", pump.entry(2), 0);
        Due.is("it is IDLE", pump.channel(0, 0), 0);
        Keys.press(pump, "B");
        Due.is("a new entry", pump.entry(2), 0);
        number(pump, "0E36", 360, 2);
        Due.end();
    }

    private static void number(DosePump pump, String keys, int number, int length) {
        Keys.press(pump, keys);
        Due.is("number behind " + keys, pump.entry(0), number);
        Due.is("length behind " + keys, pump.entry(1), length);
    }
}
