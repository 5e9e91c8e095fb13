/** channel */
public final class Promise11Test {
    public static void main(String[] args) {
        withoutProgram();
        Due.sentence("IndexOutOfBoundsException: there is no such channel, what");
        DosePump pump = Keys.pump();
        Due.is("the first", pump.channel(0, 0), 0);
        Due.is("the last", pump.channel(2, 14), 0);
        for (int c : new int[] {-1, 3, Integer.MIN_VALUE, Integer.MAX_VALUE}) {
            Due.index("channel " + c, () -> pump.channel(c, 0));
        }
        for (int what : new int[] {-1, 15, Integer.MIN_VALUE, Integer.MAX_VALUE}) {
            Due.index("what " + what, () -> pump.channel(0, what));
        }
        Due.index("neither", () -> pump.channel(3, 15));
        Due.sentence("Of a channel: 0 its phase, 1 its alarms as bits ..");
        pump.more(0, 100000, 40, 3, 0, 5);
        pump.flow(2, 10);
        Keys.press(pump, "NNB0E54E5ERP");
        pump.air(2, true);
        pump.ticks(1);
        answers(pump, "1 stroke and 3", 7, 0, 540, 496, 4, 180, 37, 4, 14, 4, 4, 0, 1, 0, 4);
        pump.air(2, false);
        pump.ticks(1);
        answers(pump, "2 strokes and 3", 7, 0, 540, 491, 9, 0, 34, 9, 34, 0, 4, 0, 1, 0, 9);
        Keys.press(pump, "SY");
        answers(pump, "STOP, RELAY", 8, 0, 540, 491, 9, 0, 0, 9, 34, 0, 4, 1, 1, 0, 9);
        Keys.press(pump, "B0E36E0E");
        answers(pump, "a new program", 6, 0, 360, -1, 0, 0, 0, 9, 34, 0, 4, 0, 1, 0, 9);
        Keys.ticks(pump, 896);
        Keys.press(pump, "RP");
        pump.ticks(1);
        answers(pump, "at 899", 7, 0, 360, -1, 4, 0, 37, 13, 14, 0, 4, 0, 2, 0, 13);
        pump.door(2, true);
        pump.ticks(3);
        answers(pump, "at 902", 8, 4, 360, -1, 4, 0, 0, 13, 0, 0, 0, 0, 2, 0, 13);
        Keys.ticks(pump, 3600 - 902);
        answers(pump, "at 3600", 8, 4, 360, -1, 4, 0, 0, 13, 0, 0, 0, 0, 1, 0, 13);
        pump.ticks(1);
        answers(pump, "at 3601", 8, 4, 360, -1, 4, 0, 0, 9, 0, 0, 0, 0, 1, 0, 13);
        pump.ticks(1);
        answers(pump, "at 3602", 8, 4, 360, -1, 4, 0, 0, 4, 0, 0, 0, 0, 1, 0, 13);
        Due.is("of another", pump.channel(1, 14), 0);
        hours();
        Due.end();
    }

    private static void withoutProgram() {
        Due.sentence("2 the rate (0 without a program), 3 strokes that are LEFT (-1: without end, or no program), "
            + "13 the drug of its program (-1)");
        String[] keys = {"", "B", "0E", "36E", "0.1E"};
        DosePump pump = Keys.pump();
        for (int i = 0; i < keys.length; i++) {
            Keys.press(pump, keys[i]);
            boolean has = i == keys.length - 1;
            Due.is("rate behind " + keys[i], pump.channel(0, 2), has ? 360 : 0);
            Due.is("left behind " + keys[i], pump.channel(0, 3), has ? 10 : -1);
            Due.is("drug behind " + keys[i], pump.channel(0, 13), has ? 0 : -1);
        }
        Keys.press(pump, "B0E36E0E");
        Due.is("without end", pump.channel(0, 3), -1);
        Due.is("of another channel", pump.channel(1, 13), -1);
    }

    private static void hours() {
        Due.sentence("7 strokes of the latest 3600 ticks, 14 strokes in all");
        DosePump pump = Keys.running("36", "0");
        for (int hour = 1; hour <= 4; hour++) {
            Keys.ticks(pump, 3600);
            Due.is("strokes of the latest 3600 ticks", pump.channel(0, 7), 3600);
            Due.is("strokes in all", pump.channel(0, 14), 3600 * hour);
        }
        Keys.press(pump, "S");
        Keys.ticks(pump, 3599);
        Due.is("the latest one", pump.channel(0, 7), 1);
        pump.ticks(1);
        Due.is("none", pump.channel(0, 7), 0);
    }

    private static void answers(DosePump pump, String when, int... due) {
        for (int what = 0; what < due.length; what++) {
            Due.is(when + ": channel(2," + what + ")", pump.channel(2, what), due[what]);
        }
    }
}
