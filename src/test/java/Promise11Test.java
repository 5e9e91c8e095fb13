/** channel */
public final class Promise11Test {
    public static void main(String[] args) {
        DosePump pump = Keys.pump();
        for (int c : new int[] {-1, 3, Integer.MIN_VALUE, Integer.MAX_VALUE}) {
            Due.index("channel " + c, () -> pump.channel(c, 0));
        }
        for (int what : new int[] {-1, 15, Integer.MIN_VALUE, Integer.MAX_VALUE}) {
            Due.index("what " + what, () -> pump.channel(0, what));
        }
        pump.more(0, 100000, 40, 3, 0, 5);
        pump.flow(2, 10);
        Keys.press(pump, "NNB0E54E5ERP");
        pump.air(2, true);
        pump.ticks(1);
        answers(pump, "1 stroke and 3", 7, 0, 540, 496, 4, 180, 37, 4, 14, 4, 4, 0, 1, 0, 4);
        pump.air(2, false);
        pump.ticks(1);
        answers(pump, "2 strokes and 3", 7, 0, 540, 491, 9, 0, 34, 9, 34, 0, 4, 0, 1, 0, 9);
        Keys.press(pump, "SY");
        answers(pump, "STOP, RELAY", 8, 0, 540, 491, 9, 0, 0, 9, 34, 0, 4, 1, 1, 0, 9);
        Keys.press(pump, "B0E36E0E");
        answers(pump, "a new program", 6, 0, 360, -1, 0, 0, 0, 9, 34, 0, 4, 0, 1, 0, 9);
        Keys.ticks(pump, 896);
        Keys.press(pump, "RP");
        pump.ticks(1);
        answers(pump, "at 899", 7, 0, 360, -1, 4, 0, 37, 13, 14, 0, 4, 0, 2, 0, 13);
        pump.door(2, true);
        pump.ticks(3);
        answers(pump, "at 902", 8, 4, 360, -1, 4, 0, 0, 13, 0, 0, 0, 0, 2, 0, 13);
        Keys.ticks(pump, 3600 - 902);
        answers(pump, "at 3600", 8, 4, 360, -1, 4, 0, 0, 13, 0, 0, 0, 0, 1, 0, 13);
        pump.ticks(1);
        answers(pump, "at 3601", 8, 4, 360, -1, 4, 0, 0, 9, 0, 0, 0, 0, 1, 0, 13);
        pump.ticks(1);
        answers(pump, "at 3602", 8, 4, 360, -1, 4, 0, 0, 4, 0, 0, 0, 0, 1, 0, 13);
        Due.is("of another", pump.channel(1, 14), 0);
        hours();
        Due.end();
    }

    private static void hours() {
        DosePump pump = Keys.running("36", "0");
        for (int hour = 1; hour <= 4; hour++) {
            Keys.ticks(pump, 3600);
            Due.is("strokes of the latest 3600 ticks", pump.channel(0, 7), 3600);
            Due.is("strokes in all", pump.channel(0, 14), 3600 * hour);
        }
        Keys.press(pump, "S");
        Keys.ticks(pump, 3599);
        Due.is("the latest one", pump.channel(0, 7), 1);
        pump.ticks(1);
        Due.is("none", pump.channel(0, 7), 0);
    }

    private static void answers(DosePump pump, String when, int... due) {
        for (int what = 0; what < due.length; what++) {
            Due.is(when + ": channel(2," + what + ")", pump.channel(2, what), due[what]);
        }
    }
}
