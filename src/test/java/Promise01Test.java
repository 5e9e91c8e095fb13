/** A new object. */
public final class Promise01Test {
    public static void main(String[] args) {
        Due.sentence("No drugs; all channels IDLE, doors closed; TIME 0; CHARGE 36000, with mains");
        DosePump pump = new DosePump();
        int[] about = {0, 36000, 0, 0, 0};
        for (int what = 0; what < about.length; what++) {
            Due.is("about(" + what + ")", pump.about(what), about[what]);
        }
        int[] channel = {0, 0, 0, -1, 0, 0, 0, 0, 0, 0, 0, 0, 0, -1, 0};
        for (int c = 0; c < 3; c++) {
            for (int what = 0; what < channel.length; what++) {
                Due.is("channel(" + c + "," + what + ")", pump.channel(c, what), channel[what]);
            }
            Due.is("door of " + c, pump.door(c, false), false);
            Due.is("air of " + c, pump.air(c, false), false);
            Due.is("flow of " + c, pump.flow(c, 200), 200);
        }
        for (int what = 0; what < 3; what++) {
            Due.is("entry(" + what + ")", pump.entry(what), 0);
        }
        for (int drug = 0; drug < 16; drug++) {
            int d = drug;
            Due.index("rate of drug " + d, () -> pump.rate(d, 1, 5));
            Due.index("more of drug " + d, () -> pump.more(d, 1, 0, 1, 0, 1));
        }
        Due.is("mains", pump.mains(true), true);
        Due.is("chain", pump.chain(), 1);
        Due.index("log(0,0)", () -> pump.log(0, 0));
        twoObjectsAreApart();
        Due.end();
    }

    private static void twoObjectsAreApart() {
        Due.sentence("A new object (and another one)");
        DosePump one = Keys.running("36", "0");
        DosePump other = new DosePump();
        one.ticks(5);
        Due.is("time of another", other.about(0), 0);
        Due.is("phase of another", other.channel(0, 0), 0);
        Due.index("drug of another", () -> other.rate(0, 1, 5));
    }
}
