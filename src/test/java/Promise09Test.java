/** mains, the battery, alarms 3 and 6. */
public final class Promise09Test {
    public static void main(String[] args) {
        answers();
        charge();
        low();
        empty();
        emptyOfChannel0();
        Due.end();
    }

    private static void answers() {
        Due.sentence("Mains are there, or not: whether they were");
        DosePump pump = new DosePump();
        Due.is("they were", pump.mains(false), true);
        Due.is("they were not", pump.mains(false), false);
        Due.is("they were not", pump.mains(true), false);
        Due.is("they were", pump.mains(true), true);
    }

    private static void charge() {
        Due.sentence("its CHARGE grows by 4 up to 36000; without it falls");
        DosePump pump = Keys.running("72", "0");
        pump.ticks(10);
        Due.is("full with mains", pump.about(1), 36000);
        pump.mains(false);
        pump.ticks(10);
        Due.is("1 a tick, 1 a stroke", pump.about(1), 36000 - 10 - 20);
        pump.mains(true);
        pump.ticks(7);
        Due.is("4 a tick, strokes or not", pump.about(1), 35998);
        pump.ticks(1);
        Due.is("up to 36000", pump.about(1), 36000);
    }

    private static void low() {
        Due.sentence("alarm 6 of channel 0 when the charge is below 3600 without mains");
        DosePump pump = new DosePump();
        pump.mains(false);
        Keys.ticks(pump, 32400);
        Due.is("3600", pump.about(1), 3600);
        Due.is("is not low", pump.channel(0, 1), 0);
        pump.ticks(1);
        Due.is("3599 is", pump.channel(0, 1), 64);
        Due.is("of channel 0 alone", pump.channel(1, 1) + pump.channel(2, 1), 0);
        Due.same("it is logged", Keys.logged(pump), "32401 7 0 6");
        Due.is("sound", pump.about(3), 1);
        Due.is("no ACK", Keys.press(pump, "A"), -1);
        pump.ticks(1);
        Due.is("it is latched once", pump.about(4), 1);
        pump.mains(true);
        Due.is("ACK with mains", Keys.press(pump, "A"), 0);
        pump.ticks(1);
        Due.is("none with mains", pump.channel(0, 1), 0);
        pump.mains(false);
        pump.ticks(3);
        Due.is("low again", pump.channel(0, 1), 64);
        pump.mains(true);
        pump.ticks(1);
        pump.mains(false);
        Due.is("3603 without mains", pump.about(1), 3603);
        pump.ticks(3);
        Due.is("ACK at 3600", Keys.press(pump, "A"), 0);
        pump.ticks(1);
        Due.is("no ACK at 3599", Keys.press(pump, "A"), -1);
    }

    private static void empty() {
        Due.sentence("alarm 3 of each channel that RUNS when it is 0");
        DosePump pump = Keys.pump();
        Keys.press(pump, "NB0E36E0ENB0E36E0E");
        pump.mains(false);
        Keys.ticks(pump, 35995);
        Due.is("five", pump.about(1), 5);
        Keys.press(pump, "RNNR");
        Due.is("channel 1 is chosen", pump.about(2), 1);
        Due.is("two strokes", pump.ticks(1), 2);
        Due.is("two", pump.about(1), 2);
        Due.is("it RUNS", pump.channel(1, 0), 7);
        Due.is("two strokes", pump.ticks(1), 2);
        Due.is("not below 0", pump.about(1), 0);
        Due.is("alarm 3 of 1", pump.channel(1, 1), 8);
        Due.is("alarm 3 of 2", pump.channel(2, 1), 8);
        Due.is("not of 0", pump.channel(0, 1), 64);
        Due.is("HOLDS", pump.channel(1, 0), 8);
        Due.same("it is logged", Keys.logged(pump, pump.about(4) - 2), "35997 7 1 3");
        Due.is("no ACK at 0", Keys.press(pump, "A"), -1);
        pump.mains(true);
        pump.ticks(49);
        Due.is("no ACK at 196", Keys.press(pump, "A"), -1);
        pump.ticks(1);
        pump.mains(false);
        pump.ticks(1);
        Due.is("no ACK at 199", Keys.press(pump, "A"), -1);
        pump.mains(true);
        pump.ticks(1);
        pump.mains(false);
        pump.ticks(3);
        Due.is("no RUN with alarm 3", Keys.press(pump, "R"), -1);
        Due.is("ACK at 200", Keys.press(pump, "A"), 8);
        Due.is("RUN", Keys.press(pump, "R"), 7);
    }

    private static void emptyOfChannel0() {
        Due.sentence("alarm 3 of each channel that RUNS when it is 0 (channel 0)");
        DosePump pump = Keys.pump();
        Keys.press(pump, "B0E0.1E0E");
        pump.mains(false);
        Keys.ticks(pump, 36000);
        Due.is("none", pump.about(1), 0);
        Due.is("EMPTY is of channels that RUN", pump.channel(0, 1), 64);
        Due.is("RUN", Keys.press(pump, "R"), 7);
        pump.ticks(1);
        Due.is("LOW and EMPTY", pump.channel(0, 1), 64 + 8);
        Due.is("HOLDS", pump.channel(0, 0), 8);
    }
}
