/** The calls of the README's example, in its order, with the answers that its comments tell. */
public final class ReadmeTest {
    public static void main(String[] args) {
        DosePump pump = new DosePump();
        pump.drug(0, 0, 1, 1, 10, 1000, 2000);
        pump.more(0, 100000, 30, 7, 50, 2);
        for (int k : new int[] {13, 0, 12, 3, 6, 12, 1, 0, 12, 14}) {
            pump.key(k);
        }
        Due.is("a minute's strokes", pump.ticks(60), 60);
        Due.is("a bolus", pump.key(18), 7);
        Due.is("ten ticks with a bolus", pump.ticks(10), 40);
        Due.is("a bolus in the lockout", pump.key(18), DosePump.REFUSED);
        Due.is("strokes that are left", pump.channel(0, 3), 900);
        pump.door(0, true);
        Due.is("alarms", pump.channel(0, 1), 4);
        Due.is("sound", pump.about(3), 1);
        pump.door(0, false);
        Due.is("ACK", pump.key(16), 8);
        Due.is("kind of the latest entry", pump.log(pump.about(4) - 1, 1), 8);
        Due.end();
    }
}
