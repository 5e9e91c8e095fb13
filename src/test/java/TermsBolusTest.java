/** The edges that 'Terms' names for a BOLUS, sentence by sentence. */
public final class TermsBolusTest {
    public static void main(String[] args) {
        inRuns();
        hasOne();
        noneIsBeingMade();
        lockout();
        lockoutOfNone();
        many();
        hourUpToNow();
        manyInOneTick();
        overPrograms();
        refusedOnes();
        paceAndLeft();
        Due.end();
    }

    /** A pump whose channel 0 runs so slowly that its own strokes come every 360 ticks alone. */
    private static DosePump slow(int bolus, int pace, int lockout, int many) {
        DosePump pump = Keys.pump();
        pump.more(0, 100000, bolus, pace, lockout, many);
        Keys.press(pump, "B0E0.1E0ER");
        return pump;
    }

    private static void inRuns() {
        Due.sentence("A BOLUS is begun by key 18 in RUNS");
        for (int phase = 0; phase <= 8; phase++) {
            DosePump pump = Keys.pump();
            pump.more(0, 100000, 5, 1, 0, 20);
            Keys.press(pump, Keys.WAYS[phase]);
            String before = Keys.state(pump);
            Due.is("BOLUS in " + phase, Keys.press(pump, "P"), phase == 7 ? 7 : -1);
            Due.is("what is left", pump.channel(0, 6), phase == 7 ? 5 : 0);
            Due.is("begun", pump.channel(0, 12), phase == 7 ? 1 : 0);
            Due.is("nothing changed in " + phase, Keys.state(pump).equals(before), phase != 7);
        }
    }

    private static void hasOne() {
        Due.sentence("if the drug has one");
        DosePump none = slow(0, 30, 0, 20);
        Due.is("a bolus of 0", Keys.press(none, "P"), -1);
        Due.is("begun", none.channel(0, 12), 0);
        Due.is("a bolus of 1", Keys.press(slow(1, 30, 0, 20), "P"), 7);
    }

    private static void noneIsBeingMade() {
        Due.sentence("none is being made");
        DosePump pump = slow(3, 1, 0, 20);
        Keys.press(pump, "P");
        for (int left = 3; left >= 1; left--) {
            Due.is("what is left", pump.channel(0, 6), left);
            Due.is("with " + left + " left", Keys.press(pump, "P"), -1);
            pump.ticks(1);
        }
        Due.is("with none left", Keys.press(pump, "P"), 7);
        Due.is("STOP, RUN, BOLUS", Keys.press(pump, "SRP"), 7);
    }

    private static void lockout() {
        Due.sentence("LOCKOUT ticks or more went by since the latest of this channel was begun");
        for (int lockout : new int[] {2, 50, 600}) {
            DosePump pump = slow(1, 1, lockout, 20);
            Due.is("the first", Keys.press(pump, "P"), 7);
            pump.ticks(lockout - 1);
            Due.is("one tick too early", Keys.press(pump, "P"), -1);
            pump.ticks(1);
            Due.is("at " + lockout, Keys.press(pump, "P"), 7);
            pump.ticks(lockout - 1);
            Due.is("since the latest", Keys.press(pump, "P"), -1);
            pump.ticks(2);
            Due.is("one tick later", Keys.press(pump, "P"), 7);
        }
        DosePump hour = slow(1, 1, 3600, 20);
        Keys.press(hour, "P");
        Keys.ticks(hour, 3599);
        Due.is("at 3599", Keys.press(hour, "P"), -1);
        hour.ticks(1);
        Due.is("at 3600", Keys.press(hour, "P"), 7);
        DosePump two = slow(1, 1, 50, 20);
        Keys.press(two, "PNB0E0.1E0ER");
        Due.is("of this channel", Keys.press(two, "P"), 7);
        Due.is("the first one's is still locked out", Keys.press(two, "NNP"), -1);
    }

    private static void lockoutOfNone() {
        Due.sentence("LOCKOUT ticks or more went by (when there was none, and with a lockout of 0)");
        Due.is("the first one at time 0", Keys.press(slow(1, 1, 3600, 1), "P"), 7);
        DosePump pump = slow(1, 1, 0, 20);
        Keys.press(pump, "PS");
        Due.is("in the same tick", Keys.press(pump, "RP"), 7);
        pump.ticks(1);
        Due.is("a tick later", Keys.press(pump, "P"), 7);
        DosePump one = slow(1, 1, 1, 20);
        Keys.press(one, "PS");
        Due.is("a lockout of 1, in the same tick", Keys.press(one, "RP"), -1);
        one.ticks(1);
        Due.is("a tick later", Keys.press(one, "P"), 7);
    }

    private static void many() {
        Due.sentence("fewer than the drug lets in were begun");
        for (int many : new int[] {1, 2, 19, 20}) {
            DosePump pump = slow(1, 1, 0, many);
            for (int i = 1; i <= many; i++) {
                Due.is(i + " of " + many, Keys.press(pump, "P"), 7);
                Due.is("begun", pump.channel(0, 12), i);
                pump.ticks(1);
            }
            Due.is("one more than " + many, Keys.press(pump, "P"), -1);
            Due.is("a refused one does not count", pump.channel(0, 12), many);
        }
    }

    private static void hourUpToNow() {
        Due.sentence("in the 3600 ticks up to now");
        DosePump pump = slow(1, 1, 0, 1);
        pump.ticks(100);
        Keys.press(pump, "P");
        Keys.ticks(pump, 3598);
        Due.is("begun, 3598 ticks ago", pump.channel(0, 12), 1);
        pump.ticks(1);
        Due.is("begun, 3599 ticks ago", pump.channel(0, 12), 1);
        Due.is("BOLUS", Keys.press(pump, "P"), -1);
        pump.ticks(1);
        Due.is("begun, 3600 ticks ago", pump.channel(0, 12), 0);
        Due.is("BOLUS", Keys.press(pump, "P"), 7);
        Due.is("begun", pump.channel(0, 12), 1);
        pump.ticks(1);
        Due.is("BOLUS again", Keys.press(pump, "P"), -1);
        DosePump two = slow(1, 1, 0, 2);
        Keys.press(two, "P");
        two.ticks(1);
        Keys.press(two, "P");
        Keys.ticks(two, 3599);
        Due.is("the first one is 3600 ticks old", two.channel(0, 12), 1);
        two.ticks(1);
        Due.is("the second one, too", two.channel(0, 12), 0);
    }

    private static void manyInOneTick() {
        Due.sentence("fewer than the drug lets in were begun in the 3600 ticks up to now (all in one tick)");
        DosePump pump = slow(1, 1, 0, 20);
        for (int i = 1; i <= 20; i++) {
            Due.is("number " + i, Keys.press(pump, "PSR"), 7);
            Due.is("begun", pump.channel(0, 12), i);
        }
        Due.is("the twenty-first", Keys.press(pump, "P"), -1);
        Keys.ticks(pump, 3599);
        Due.is("3599 ticks later", pump.channel(0, 12), 20);
        pump.ticks(1);
        Due.is("3600 ticks later", pump.channel(0, 12), 0);
    }

    private static void overPrograms() {
        Due.sentence("(both counted over programs)");
        DosePump pump = Keys.pump();
        pump.more(0, 100000, 1, 1, 0, 2);
        pump.more(1, 100000, 4, 1, 100, 3);
        Keys.press(pump, "B0E0.1E0ERP");
        pump.ticks(1);
        Keys.press(pump, "P");
        pump.ticks(1);
        Keys.press(pump, "SB1E70E0.1E0ER");
        Due.is("begun under the program before", pump.channel(0, 12), 2);
        pump.ticks(98);
        Due.is("99 ticks, under another drug's lockout", Keys.press(pump, "P"), -1);
        pump.ticks(1);
        Due.is("100 ticks, the third one", Keys.press(pump, "P"), 7);
        pump.ticks(100);
        Due.is("the fourth one", Keys.press(pump, "P"), -1);
        Keys.press(pump, "SB0E0.1E0ER");
        Due.is("three are not fewer than two", Keys.press(pump, "P"), -1);
        Keys.ticks(pump, 3600 - 201);
        Due.is("two are not, either", Keys.press(pump, "P"), -1);
        pump.ticks(1);
        Due.is("begun, at 3601", pump.channel(0, 12), 1);
        Due.is("one is fewer than two", Keys.press(pump, "P"), 7);
    }

    private static void refusedOnes() {
        Due.sentence("else it is REFUSED; 6 one was refused in RUNS (0)");
        DosePump pump = slow(2, 1, 50, 20);
        Keys.press(pump, "P");
        int entries = pump.about(4);
        pump.ticks(1);
        Due.is("while one is made", Keys.press(pump, "P"), -1);
        Due.same("logged", Keys.logged(pump), "1 6 0 0");
        Due.is("once", pump.about(4), entries + 1);
        Due.is("the one that is made goes on", pump.channel(0, 6), 1);
        pump.ticks(40);
        Due.is("in its lockout", Keys.press(pump, "P"), -1);
        Due.same("logged", Keys.logged(pump), "41 6 0 0");
        pump.ticks(9);
        Due.is("a refused one does not begin the lockout anew", Keys.press(pump, "P"), 7);
        Due.same("logged", Keys.logged(pump), "50 5 0 2");
    }

    private static void paceAndLeft() {
        Due.sentence("as many of a bolus that is being made as its pace and what is left of it");
        int[][] cases = {{29, 30, 29, 0}, {30, 30, 30, 0}, {31, 30, 30, 1}, {1, 1, 1, 0}, {2, 1, 1, 1},
            {5000, 30, 30, 30}, {59, 30, 30, 29}, {60, 30, 30, 30}, {61, 30, 30, 30}};
        for (int[] c : cases) {
            DosePump pump = slow(c[0], c[1], 0, 20);
            Keys.press(pump, "P");
            String call = "a bolus of " + c[0] + " at " + c[1];
            Due.is(call + ", tick 1", pump.ticks(1), c[2]);
            Due.is(call + ", left", pump.channel(0, 6), c[0] - c[2]);
            Due.is(call + ", tick 2", pump.ticks(1), c[3]);
            Due.is(call + ", left", pump.channel(0, 6), c[0] - c[2] - c[3]);
            Due.is(call + ", all of it", pump.ticks(200), c[0] - c[2] - c[3]);
        }
    }
}
