/** air: the sensor, the bubble, strokes with air, alarm 0. */
public final class Promise07Test {
    public static void main(String[] args) {
        answers();
        bubble();
        manyStrokes();
        window();
        oldStrokesDoNotCount();
        Due.end();
    }

    private static void answers() {
        Due.sentence("Whether there is air at a channel's sensor: what was");
        DosePump each = new DosePump();
        for (int c = 0; c < 3; c++) {
            Due.is("none at first", each.air(c, true), false);
            Due.is("what was", each.air(c, false), true);
        }
        DosePump pump = new DosePump();
        Due.is("none at first", pump.air(2, true), false);
        Due.is("what was", pump.air(2, true), true);
        Due.is("what was", pump.air(2, false), true);
        Due.is("what was", pump.air(2, false), false);
        Due.is("of another", pump.air(0, false), false);
        Due.index("channel 3", () -> pump.air(3, true));
        Due.index("channel -1", () -> pump.air(-1, true));
    }

    private static void bubble() {
        Due.sentence("the BUBBLE grows by 1, otherwise it is 0 then");
        DosePump pump = Keys.running("108", "0");
        pump.air(0, true);
        pump.ticks(1);
        Due.is("three", pump.channel(0, 9), 3);
        Due.is("ends the tick's strokes", pump.ticks(1), 2);
        Due.is("five", pump.channel(0, 9), 5);
        Due.is("alarm 0", pump.channel(0, 1), 1);
        Due.is("HOLDS", pump.channel(0, 0), 8);
        Due.is("no ACK with air", Keys.press(pump, "A"), -1);
        pump.air(0, false);
        Due.is("the bubble stays", pump.channel(0, 9), 5);
        Due.is("ACK without", Keys.press(pump, "A"), 8);
        Due.is("no bubble", pump.channel(0, 9), 0);
        Due.is("strokes with air are forgotten", pump.channel(0, 10), 0);
        Due.same("it is logged", Keys.logged(pump), "2 8 0 0");
        Keys.press(pump, "R");
        pump.air(0, true);
        pump.ticks(1);
        pump.air(0, false);
        pump.ticks(1);
        Due.is("a stroke without air", pump.channel(0, 9), 0);
        Due.is("strokes with air stay", pump.channel(0, 10), 3);
        Keys.ticks(pump, 895);
        Due.is("nothing that was forgotten goes twice", pump.channel(0, 10), 3);
        Keys.ticks(pump, 10);
        Due.is("none behind 900 ticks", pump.channel(0, 10), 0);
    }

    private static int fourInFive(DosePump pump, int times) {
        int made = 0;
        for (int i = 0; i < times; i++) {
            pump.air(0, true);
            made += pump.ticks(4);
            pump.air(0, false);
            made += pump.ticks(1);
        }
        return made;
    }

    private static void manyStrokes() {
        Due.sentence("60 strokes with air or more");
        DosePump pump = Keys.running("36", "0");
        Due.is("fourteen times", fourInFive(pump, 14), 70);
        pump.air(0, true);
        pump.ticks(3);
        Due.is("59 strokes", pump.channel(0, 10), 59);
        Due.is("no alarm", pump.channel(0, 1), 0);
        pump.ticks(1);
        Due.is("60 strokes", pump.channel(0, 10), 60);
        Due.is("alarm 0", pump.channel(0, 1), 1);
        Due.is("a bubble of 4", pump.channel(0, 9), 4);
    }

    private static void window() {
        Due.sentence("in the latest 900 ticks");
        DosePump pump = Keys.running("36", "0");
        pump.air(0, true);
        pump.ticks(4);
        pump.air(0, false);
        Keys.ticks(pump, 896);
        Due.is("at 900", pump.channel(0, 10), 4);
        pump.ticks(1);
        Due.is("at 901", pump.channel(0, 10), 3);
        pump.ticks(3);
        Due.is("at 904", pump.channel(0, 10), 0);
    }

    private static void oldStrokesDoNotCount() {
        Due.sentence("60 strokes with air or more in the latest 900 ticks");
        DosePump pump = Keys.running("36", "0");
        pump.air(0, true);
        pump.ticks(4);
        pump.air(0, false);
        Keys.ticks(pump, 830);
        fourInFive(pump, 14);
        pump.air(0, true);
        pump.ticks(4);
        Due.is("tick 908 has 60 without the first four", pump.channel(0, 10), 60);
        Due.same("it comes there", Keys.logged(pump), "908 7 0 0");
    }
}
