/** The edges that 'Terms' names for pressure and air of a line, sentence by sentence. */
public final class TermsLineTest {
    public static void main(String[] args) {
        sixForAStroke();
        bubble();
        bubbleOfFive();
        sixtyStrokes();
        latest900Ticks();
        sixtyIn900Ticks();
        fallsByTheFlow();
        hundredOrMore();
        threeTicksInARow();
        inWhateverPhase();
        threeTicksAnew();
        Due.end();
    }

    private static void sixForAStroke() {
        Due.sentence("A stroke adds 6 to the PRESSURE of the line");
        DosePump pump = Keys.running("36", "0");
        pump.flow(0, 0);
        for (int strokes = 1; strokes <= 3; strokes++) {
            pump.ticks(1);
            Due.is(strokes + " strokes", pump.channel(0, 8), 6 * strokes);
        }
        DosePump none = Keys.running("0.1", "0");
        none.flow(0, 0);
        none.ticks(359);
        Due.is("no stroke", none.channel(0, 8), 0);
        none.ticks(1);
        Due.is("a stroke", none.channel(0, 8), 6);
    }

    private static void bubble() {
        Due.sentence("If there is AIR at the sensor, the BUBBLE grows by 1, otherwise it is 0 then");
        DosePump pump = Keys.running("36", "0");
        pump.air(0, true);
        Due.is("no stroke, no bubble", pump.channel(0, 9), 0);
        for (int strokes = 1; strokes <= 4; strokes++) {
            pump.ticks(1);
            Due.is(strokes + " strokes", pump.channel(0, 9), strokes);
        }
        pump.air(0, false);
        Due.is("the bubble stays", pump.channel(0, 9), 4);
        Keys.press(pump, "S");
        pump.ticks(10);
        Due.is("without a stroke", pump.channel(0, 9), 4);
        Keys.press(pump, "R");
        pump.ticks(1);
        Due.is("a stroke without air", pump.channel(0, 9), 0);
        pump.air(0, true);
        pump.ticks(1);
        Due.is("from 1 again", pump.channel(0, 9), 1);
    }

    private static void bubbleOfFive() {
        Due.sentence("alarm 0, if the bubble is 5 or more");
        DosePump pump = Keys.running("36", "0");
        pump.air(0, true);
        pump.ticks(4);
        Due.is("4", pump.channel(0, 1), 0);
        Due.is("RUNS", pump.channel(0, 0), 7);
        pump.ticks(1);
        Due.is("5", pump.channel(0, 1), 1);
        Due.is("HOLDS", pump.channel(0, 0), 8);
        Due.same("logged", Keys.logged(pump), "5 7 0 0");
        DosePump broken = Keys.running("36", "0");
        broken.air(0, true);
        broken.ticks(4);
        broken.air(0, false);
        broken.ticks(1);
        broken.air(0, true);
        broken.ticks(4);
        Due.is("4, and 4", broken.channel(0, 1), 0);
    }

    /** Fourteen times four strokes with air and one without: 70 ticks, 56 strokes with air. */
    private static void fiftySix(DosePump pump) {
        for (int i = 0; i < 14; i++) {
            pump.air(0, true);
            pump.ticks(4);
            pump.air(0, false);
            pump.ticks(1);
        }
        pump.air(0, true);
    }

    private static void sixtyStrokes() {
        Due.sentence("or there were 60 strokes with air or more");
        DosePump pump = Keys.running("36", "0");
        fiftySix(pump);
        pump.ticks(3);
        Due.is("59", pump.channel(0, 10), 59);
        Due.is("no alarm", pump.channel(0, 1), 0);
        pump.ticks(1);
        Due.is("60", pump.channel(0, 10), 60);
        Due.is("alarm 0", pump.channel(0, 1), 1);
        Due.is("a bubble of 4", pump.channel(0, 9), 4);
        pump.air(0, false);
        Keys.press(pump, "A");
        Due.is("forgotten", pump.channel(0, 10), 0);
        Keys.press(pump, "R");
        fiftySix(pump);
        pump.ticks(3);
        Due.is("59 again", pump.channel(0, 1), 0);
        pump.ticks(1);
        Due.is("60 again", pump.channel(0, 1), 1);
        DosePump two = Keys.running("72", "0");
        for (int i = 0; i < 29; i++) {
            two.air(0, i % 3 != 2);
            two.ticks(1);
        }
        Due.is("two a tick, 40 of 58", two.channel(0, 10), 40);
    }

    private static void latest900Ticks() {
        Due.sentence("in the latest 900 ticks");
        DosePump pump = Keys.running("36", "0");
        pump.ticks(7);
        pump.air(0, true);
        pump.ticks(1);
        pump.air(0, false);
        Keys.ticks(pump, 898);
        Due.is("898 ticks later", pump.channel(0, 10), 1);
        pump.ticks(1);
        Due.is("899 ticks later", pump.channel(0, 10), 1);
        pump.ticks(1);
        Due.is("900 ticks later", pump.channel(0, 10), 0);
    }

    private static void sixtyIn900Ticks() {
        Due.sentence("60 strokes with air or more in the latest 900 ticks");
        for (int apart = 898; apart <= 900; apart++) {
            DosePump pump = Keys.running("36", "0");
            pump.air(0, true);
            pump.ticks(1);
            pump.air(0, false);
            Keys.ticks(pump, apart - 73);
            fiftySix(pump);
            pump.ticks(2);
            Due.is("59, " + (apart - 1) + " ticks later", pump.channel(0, 10), 59);
            Due.is("no alarm", pump.channel(0, 1), 0);
            pump.ticks(1);
            Due.is("the 60th, " + apart + " ticks later", pump.channel(0, 1), apart < 900 ? 1 : 0);
            Due.is("strokes with air", pump.channel(0, 10), apart < 900 ? 60 : 59);
        }
    }

    private static void fallsByTheFlow() {
        Due.sentence("the pressure falls by the FLOW of the line (200 at first), not below 0");
        int[] flows = {0, 5, 6, 7, 1000};
        int[] due = {6, 1, 0, 0, 0};
        for (int i = 0; i < flows.length; i++) {
            DosePump pump = Keys.running("36", "0");
            Due.is("at first", pump.flow(0, flows[i]), 200);
            pump.ticks(1);
            Due.is("6 with a flow of " + flows[i], pump.channel(0, 8), due[i]);
        }
        DosePump first = Keys.pump();
        first.more(0, 100000, 5000, 30, 0, 20);
        Keys.press(first, "B0E144E0ERP");
        first.ticks(1);
        Due.is("34 strokes are 204, less 200", first.channel(0, 8), 4);
        Keys.press(first, "S");
        first.ticks(1);
        Due.is("not below 0", first.channel(0, 8), 0);
    }

    /** A pump whose channel 0 HOLDS behind one tick with this pressure, 97 to 102, and keeps it. */
    private static DosePump tight(int pressure) {
        DosePump pump = Keys.running("36", "0");
        pump.flow(0, 0);
        pump.ticks(16);
        pump.flow(0, 102 - pressure);
        pump.ticks(1);
        pump.flow(0, 0);
        Keys.press(pump, "S");
        Due.is("pressure", pump.channel(0, 8), pressure);
        return pump;
    }

    private static void hundredOrMore() {
        Due.sentence("If it is 100 or more then in three ticks in a row: alarm 1");
        for (int pressure = 98; pressure <= 102; pressure++) {
            DosePump pump = tight(pressure);
            Due.is("one tick of " + pressure, pump.channel(0, 1), 0);
            pump.ticks(1);
            Due.is("two ticks of " + pressure, pump.channel(0, 1), 0);
            pump.ticks(1);
            Due.is("three ticks of " + pressure, pump.channel(0, 1), pressure < 100 ? 0 : 2);
            Due.is("and the pressure is 0", pump.channel(0, 8), pressure < 100 ? pressure : 0);
            pump.ticks(100);
            Due.is("more ticks of " + pressure, pump.channel(0, 1), pressure < 100 ? 0 : 2);
        }
    }

    private static void threeTicksInARow() {
        Due.sentence("in three ticks in a row");
        DosePump pump = tight(102);
        pump.ticks(1);
        pump.flow(0, 3);
        pump.ticks(1);
        Due.is("99 in the third", pump.channel(0, 8), 99);
        Due.is("no alarm", pump.channel(0, 1), 0);
        pump.flow(0, 0);
        Keys.press(pump, "R");
        pump.ticks(2);
        Due.is("two more", pump.channel(0, 1), 0);
        pump.ticks(1);
        Due.is("the third of them", pump.channel(0, 1), 2);
        Due.same("logged", Keys.logged(pump), "22 7 0 1");
    }

    private static void inWhateverPhase() {
        Due.sentence("Then, in whatever phase: the pressure falls by the FLOW of the line");
        String[] keys = {"B", "B1E", "B0E", "B0E1E", "B1E70E0.05E", "B0E0.1E0E", "R", ""};
        for (int phase = 1; phase <= 8; phase++) {
            DosePump falls = tight(102);
            Keys.press(falls, keys[phase - 1]);
            falls.flow(0, 7);
            falls.ticks(1);
            Due.is("it falls in phase " + phase, falls.channel(0, 8), phase == 7 ? 101 : 95);
            DosePump pump = tight(100);
            Keys.press(pump, keys[phase - 1]);
            Due.is("phase", pump.channel(0, 0), phase);
            pump.ticks(1);
            Due.is("two ticks in phase " + phase, pump.channel(0, 1), 0);
            pump.ticks(1);
            Due.is("three ticks in phase " + phase, pump.channel(0, 1), 2);
            Due.is("phase", pump.channel(0, 0), phase == 7 ? 8 : phase);
            Due.is("pressure", pump.channel(0, 8), 0);
        }
    }

    private static void threeTicksAnew() {
        Due.sentence("alarm 1, and the pressure is 0 (and the three ticks begin anew)");
        DosePump pump = Keys.running("612", "0");
        pump.flow(0, 0);
        Due.is("17 a tick", pump.ticks(3), 51);
        Due.is("alarm 1", pump.channel(0, 1), 2);
        Due.is("pressure", pump.channel(0, 8), 0);
        Keys.press(pump, "AR");
        pump.ticks(2);
        Due.is("two ticks", pump.channel(0, 1), 0);
        Due.is("pressure", pump.channel(0, 8), 204);
        pump.ticks(1);
        Due.is("three ticks", pump.channel(0, 1), 2);
    }
}
