/** The edges that 'Terms' names for the 60 ticks of an entry, sentence by sentence. */
public final class TermsEntryTest {
    public static void main(String[] args) {
        sixtyTicks();
        keysThatDoNotCount();
        keysThatCount();
        refusedKeys();
        keysOfAnotherChannel();
        endOfTheTick();
        Due.end();
    }

    private static void sixtyTicks() {
        Due.sentence("An entry for which no key but 16, 18, 19, 20 was pressed in 60 ticks is dropped "
            + "at the end of the 60th tick");
        for (int phase = 1; phase <= 5; phase++) {
            DosePump pump = Keys.inPhase(phase);
            pump.ticks(58);
            Due.is("58 ticks", pump.entry(2), 58);
            pump.ticks(1);
            Due.is("59 ticks", pump.entry(2), 59);
            Due.is("still in " + phase, pump.channel(0, 0), phase);
            int entries = pump.about(4);
            pump.ticks(1);
            Due.is("60 ticks", pump.channel(0, 0), 0);
            Due.is("no entry", pump.entry(2), 0);
            Due.is("one entry of the log", pump.about(4), entries + 1);
            Due.same("it is logged", Keys.logged(pump), "60 9 0 " + phase);
            pump.ticks(1);
            Due.is("61 ticks: once", pump.about(4), entries + 1);
        }
        DosePump whole = Keys.inPhase(1);
        whole.ticks(600);
        Due.same("within a long run of ticks", Keys.logged(whole), "60 9 0 1");
        DosePump numbered = Keys.inPhase(1);
        Keys.press(numbered, "12");
        numbered.ticks(60);
        Due.is("its number is gone", numbered.entry(0), 0);
        Keys.press(numbered, "B");
        Due.is("and does not come back", numbered.entry(1), 0);
    }

    private static void keysThatDoNotCount() {
        Due.sentence("no key but 16, 18, 19, 20");
        for (int k : new int[] {16, 18, 19, 20}) {
            DosePump pump = Keys.pump();
            pump.mains(false);
            Keys.ticks(pump, 32401);
            pump.mains(true);
            Keys.press(pump, "B");
            pump.ticks(59);
            int answer = pump.key(k);
            Due.is("key " + k, answer, k == 18 ? -1 : 1);
            pump.ticks(1);
            Due.is("dropped in spite of key " + k, pump.channel(0, 0), 0);
        }
    }

    private static void keysThatCount() {
        Due.sentence("each key of these others that was not REFUSED begins them anew");
        // The phase before, the keys, the phase behind them.
        String[][] counts = {{"1", "0", "1"}, {"1", "0C", "1"}, {"1", "0E", "3"}, {"1", "1E", "2"}, {"2", "7", "2"},
            {"2", "7.", "2"}, {"2", "7E", "3"}, {"3", "1E", "4"}, {"3", "1000E", "3"}, {"4", "1", "4"},
            {"5", "O", "4"}, {"5", "C", "3"}};
        for (String[] count : counts) {
            DosePump pump = Keys.inPhase(Integer.parseInt(count[0]));
            int after = Integer.parseInt(count[2]);
            pump.ticks(59);
            Keys.press(pump, count[1]);
            Due.is("ticks behind " + count[1], pump.entry(2), 0);
            pump.ticks(59);
            Due.is("kept by " + count[1], pump.channel(0, 0), after);
            Due.is("ticks", pump.entry(2), 59);
            pump.ticks(1);
            Due.is("dropped behind " + count[1], pump.channel(0, 0), 0);
            Due.same("it is logged", Keys.logged(pump), "119 9 0 " + after);
        }
        lastKeyOfSeveral();
        hardCounts();
    }

    private static void lastKeyOfSeveral() {
        for (String last : new String[] {".", "C", "E"}) {
            DosePump pump = Keys.inPhase(2);
            Keys.press(pump, "70");
            pump.ticks(59);
            Due.is("key " + last, Keys.press(pump, last), last.equals("E") ? 3 : 2);
            pump.ticks(59);
            Due.is("kept by " + last, pump.entry(2), 59);
        }
        DosePump again = Keys.inPhase(8);
        Keys.press(again, "B");
        again.ticks(30);
        Keys.press(again, "SB");
        Due.is("another entry", again.entry(2), 0);
        again.ticks(59);
        Due.is("has its own 60 ticks", again.channel(0, 0), 1);
    }

    private static void hardCounts() {
        DosePump pump = Keys.inPhase(3);
        Keys.press(pump, "1000");
        pump.ticks(59);
        Due.is("ENTER", Keys.press(pump, "E"), DosePump.HARD);
        Due.is("HARD is not REFUSED", pump.entry(2), 0);
        pump.ticks(59);
        Due.is("kept by it", pump.channel(0, 0), 3);
    }

    private static void refusedKeys() {
        Due.sentence("each key of these others that was not REFUSED (and one that was)");
        String[] refused = {"", ".EBROY", ".EBROY", ".EBROY", ".EBROY", "0.EBRY"};
        for (int phase = 1; phase <= 5; phase++) {
            for (char name : refused[phase].toCharArray()) {
                DosePump pump = Keys.inPhase(phase);
                pump.ticks(59);
                Due.is(name + " in " + phase, Keys.press(pump, "" + name), -1);
                Due.is("ticks", pump.entry(2), 59);
                pump.ticks(1);
                Due.is("not kept by " + name, pump.channel(0, 0), 0);
            }
        }
        DosePump full = Keys.inPhase(1);
        Keys.press(full, "1234");
        full.ticks(59);
        Due.is("a fifth figure", Keys.press(full, "5"), -1);
        full.ticks(1);
        Due.is("not kept by it", full.channel(0, 0), 0);
    }

    private static void keysOfAnotherChannel() {
        Due.sentence("An entry for which no key was pressed (but for another channel's entry)");
        DosePump pump = Keys.pump();
        Keys.press(pump, "B");
        pump.ticks(59);
        Keys.press(pump, "NB1");
        Due.is("the other has its own", pump.entry(2), 0);
        pump.ticks(1);
        Due.is("dropped", pump.channel(0, 0), 0);
        Due.is("the other is kept", pump.channel(1, 0), 1);
        pump.ticks(58);
        Due.is("kept at 59", pump.channel(1, 0), 1);
        pump.ticks(1);
        Due.is("dropped at 60", pump.channel(1, 0), 0);
        Due.same("it is logged", Keys.logged(pump), "119 9 1 1");
    }

    private static void endOfTheTick() {
        Due.sentence("Then, in whatever phase: alarm 1. An entry may be dropped then, as told. "
            + "Behind all channels: alarm 6");
        DosePump pump = Keys.running("999.9", "0");
        pump.mains(false);
        Keys.ticks(pump, 1100);
        int charge = pump.about(1);
        Keys.press(pump, "S");
        while (charge > 3600 + 59) {
            int n = Math.min(600, charge - 3600 - 59);
            pump.ticks(n);
            charge = pump.about(1);
        }
        Keys.press(pump, "B");
        int first = pump.about(4);
        pump.ticks(60);
        int time = pump.about(0);
        Due.same("the entry", Keys.logged(pump, first), time + " 9 0 1");
        Due.same("then LOW", Keys.logged(pump, first + 1), time + " 7 0 6");
    }
}
