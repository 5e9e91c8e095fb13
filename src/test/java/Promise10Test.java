/** about */
public final class Promise10Test {
    public static void main(String[] args) {
        Due.sentence("what = 0 .. 3; log entries in all (4). IndexOutOfBoundsException");
        DosePump pump = Keys.pump();
        Due.index("about(min)", () -> pump.about(Integer.MIN_VALUE));
        Due.index("about(-1)", () -> pump.about(-1));
        Due.is("about(0)", pump.about(0), 0);
        Due.is("about(4)", pump.about(4), 0);
        Due.sentence("Time, charge, the chosen channel, whether there is a sound; log entries in all");
        Due.index("about(5)", () -> pump.about(5));
        Due.index("about(max)", () -> pump.about(Integer.MAX_VALUE));
        pump.mains(false);
        pump.ticks(17);
        Due.is("time", pump.about(0), 17);
        Due.is("charge", pump.about(1), 36000 - 17);
        for (int i = 1; i <= 4; i++) {
            Keys.press(pump, "N");
            Due.is("chosen", pump.about(2), i % 3);
        }
        Due.is("chosen is 1", pump.about(2), 1);
        Keys.press(pump, "B0E36E0.1ER");
        Due.is("no sound", pump.about(3), 0);
        pump.ticks(10);
        Due.is("sound of alarm 5, too", pump.about(3), 1);
        Keys.press(pump, "N");
        Due.is("of whatever channel is chosen", pump.about(3), 1);
        Due.is("ACK of another", Keys.press(pump, "A"), -1);
        Keys.press(pump, "NNA");
        Due.is("no alarm, no sound", pump.about(3), 0);
        Due.is("entries", pump.about(4), 4);
        for (int i = 0; i < 100; i++) {
            Keys.press(pump, "SB");
        }
        Due.is("entries in all", pump.about(4), 4 + 100);
        Due.end();
    }
}
