/** door */
public final class Promise08Test {
    public static void main(String[] args) {
        eachChannel();
        oneThatRuns();
        Due.end();
    }

    private static void eachChannel() {
        Due.sentence("A channel's door is opened, or closed: whether it was open");
        DosePump pump = new DosePump();
        for (int c : new int[] {Integer.MIN_VALUE, -1, 3, Integer.MAX_VALUE}) {
            Due.index("channel " + c, () -> pump.door(c, true));
        }
        for (int c = 0; c < 3; c++) {
            Due.is("closed at first", pump.door(c, false), false);
            Due.is("still closed", pump.door(c, true), false);
            Due.is("open", pump.door(c, true), true);
        }
        for (int c = 0; c < 3; c++) {
            Due.is("still open", pump.door(c, false), true);
            Due.is("closed", pump.door(c, false), false);
        }
    }

    private static void oneThatRuns() {
        Due.sentence("its door is opened while it RUNS");
        DosePump pump = Keys.pump();
        pump.more(0, 100000, 50, 1, 0, 20);
        Due.index("channel 3", () -> pump.door(3, true));
        Due.index("channel -1", () -> pump.door(-1, true));
        Due.is("closed", pump.door(1, true), false);
        Due.is("open", pump.door(1, true), true);
        Due.is("open", pump.door(1, false), true);
        Due.is("closed", pump.door(1, false), false);
        Due.is("no alarm in IDLE", pump.channel(1, 1), 0);
        Keys.press(pump, "B0E36E0E");
        pump.door(0, true);
        Due.is("no alarm in READY", pump.channel(0, 1), 0);
        pump.door(0, false);
        Keys.press(pump, "RP");
        pump.door(1, true);
        Due.is("another's door", pump.channel(0, 0), 7);
        pump.door(0, false);
        Due.is("closing does nothing", pump.channel(0, 0), 7);
        Due.is("opened", pump.door(0, true), false);
        Due.is("alarm 2", pump.channel(0, 1), 4);
        Due.is("HOLDS", pump.channel(0, 0), 8);
        Due.is("the bolus is gone", pump.channel(0, 6), 0);
        Due.same("it is logged", Keys.logged(pump), "0 7 0 2");
        Due.is("it makes none", pump.ticks(10), 0);
        Due.same("no ACK, no RUN", Keys.answers(pump, "AR"), "-1 -1");
        pump.door(0, false);
        Due.same("RUN behind ACK alone", Keys.answers(pump, "RAR"), "-1 8 7");
    }
}
