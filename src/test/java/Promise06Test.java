/** flow: the line's flow, its pressure, alarm 1. */
public final class Promise06Test {
    public static void main(String[] args) {
        answers();
        pressure();
        edgeOfAHundred();
        inARow();
        anew();
        Due.end();
    }

    private static void answers() {
        Due.sentence("The flow of a channel's line, 0 .. 1000: what it was");
        for (int c = 0; c < 3; c++) {
            DosePump edges = new DosePump();
            int was = 200;
            for (int flow : new int[] {0, 1, 999, 1000}) {
                Due.is("flow " + flow + " of " + c, edges.flow(c, flow), was);
                was = flow;
            }
        }
        DosePump pump = new DosePump();
        Due.is("200 at first", pump.flow(1, 0), 200);
        Due.is("what it was", pump.flow(1, 1000), 0);
        Due.is("what it was", pump.flow(1, 7), 1000);
        Due.is("of another", pump.flow(2, 7), 200);
        Due.argument("flow -1", () -> pump.flow(1, -1));
        Due.argument("flow 1001", () -> pump.flow(1, 1001));
        Due.index("channel -1", () -> pump.flow(-1, 5));
        Due.index("channel 3, index before argument", () -> pump.flow(3, -1));
        Due.is("nothing changed", pump.flow(1, 1), 7);
    }

    private static void pressure() {
        Due.sentence("the pressure falls by the FLOW of the line");
        DosePump pump = Keys.running("36", "0");
        pump.flow(0, 4);
        pump.ticks(3);
        Due.is("6 more, 4 less", pump.channel(0, 8), 6);
        pump.flow(0, 1000);
        pump.ticks(1);
        Due.is("not below 0", pump.channel(0, 8), 0);
        pump.flow(0, 0);
        Due.is("strokes till alarm 1", pump.ticks(100), 19);
        Due.is("alarm 1", pump.channel(0, 1), 2);
        Due.is("pressure 0", pump.channel(0, 8), 0);
        Due.is("HOLDS", pump.channel(0, 0), 8);
        Due.same("it is logged", Keys.logged(pump), "23 7 0 1");
        Due.same("ACK takes it always", Keys.answers(pump, "AR"), "8 7");
        Due.is("three ticks anew", pump.ticks(100), 19);
    }

    private static void edgeOfAHundred() {
        Due.sentence("If it is 100 or more then");
        for (int flow = 2; flow <= 3; flow++) {
            DosePump pump = Keys.running("36", "0");
            pump.flow(0, 0);
            pump.ticks(16);
            Keys.press(pump, "S");
            Due.is("96 is not enough", pump.channel(0, 8), 96);
            pump.ticks(10);
            Keys.press(pump, "R");
            pump.flow(0, flow);
            pump.ticks(1);
            Keys.press(pump, "S");
            pump.flow(0, 0);
            pump.ticks(1);
            Due.is("two ticks are not enough", pump.channel(0, 1), 0);
            pump.ticks(1);
            Due.is("three of " + (102 - flow), pump.channel(0, 1), flow == 2 ? 2 : 0);
            Due.is("in HOLDS, too", pump.channel(0, 0), 8);
        }
    }

    private static void inARow() {
        Due.sentence("in three ticks in a row");
        DosePump pump = Keys.running("36", "0");
        pump.flow(0, 0);
        pump.ticks(18);
        pump.flow(0, 20);
        pump.ticks(1);
        Due.is("below again", pump.channel(0, 8), 94);
        pump.flow(0, 0);
        pump.ticks(2);
        Due.is("two more are not in a row", pump.channel(0, 1), 0);
        pump.ticks(1);
        Due.is("three are", pump.channel(0, 1), 2);
    }

    private static void anew() {
        Due.sentence("and the three ticks begin anew");
        DosePump pump = Keys.running("999.9", "0");
        pump.flow(0, 0);
        pump.ticks(3);
        Due.is("three ticks", pump.channel(0, 1), 2);
        Keys.press(pump, "AR");
        pump.ticks(2);
        Due.is("two more", pump.channel(0, 1), 0);
        pump.ticks(1);
        Due.is("three more", pump.channel(0, 1), 2);
    }
}
