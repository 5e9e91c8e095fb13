/** The edges that 'Terms' names for the battery, sentence by sentence. */
public final class TermsBatteryTest {
    public static void main(String[] args) {
        upTo36000();
        falls();
        notBelow0();
        strokesAtTheEnd();
        low();
        lowWithMains();
        empty();
        emptyThatDoesNotRun();
        runsWithoutCharge();
        Due.end();
    }

    /** A pump without mains and with so much charge; a program is ready in channel 1. */
    private static DosePump charged(int charge, String amount) {
        DosePump pump = Keys.pump();
        Keys.press(pump, "NB0E" + amount + "E0E");
        pump.mains(false);
        Keys.ticks(pump, 36000 - charge);
        Due.is("charge", pump.about(1), charge);
        return pump;
    }

    private static void upTo36000() {
        Due.sentence("with mains its CHARGE grows by 4 up to 36000");
        int[] before = {35000, 35995, 35996, 35997, 35999, 36000};
        int[] after = {35004, 35999, 36000, 36000, 36000, 36000};
        for (int i = 0; i < before.length; i++) {
            DosePump pump = charged(before[i], "36");
            pump.mains(true);
            Due.is("the call alone changes nothing", pump.about(1), before[i]);
            pump.ticks(1);
            Due.is("a tick from " + before[i], pump.about(1), after[i]);
        }
        DosePump runs = charged(35990, "36");
        runs.mains(true);
        Keys.press(runs, "R");
        Due.is("a stroke", runs.ticks(1), 1);
        Due.is("takes none with mains", runs.about(1), 35994);
        DosePump empty = charged(0, "36");
        empty.mains(true);
        empty.ticks(1);
        Due.is("from 0", empty.about(1), 4);
    }

    private static void falls() {
        Due.sentence("without it falls by 1, and by 1 for each stroke of this tick");
        String[] amounts = {"0.1", "36", "72", "999.9"};
        int[] strokes = {0, 1, 2, 27};
        for (int i = 0; i < amounts.length; i++) {
            DosePump pump = charged(20000, amounts[i]);
            pump.ticks(1);
            Due.is("READY", pump.about(1), 19999);
            Keys.press(pump, "R");
            Due.is("strokes of " + amounts[i], pump.ticks(1), strokes[i]);
            Due.is("charge", pump.about(1), 19998 - strokes[i]);
        }
        DosePump all = Keys.pump();
        Keys.press(all, "B0E36E0ERNB0E72E0ERNB0E108E0ER");
        all.mains(false);
        Due.is("strokes of all channels", all.ticks(1), 6);
        Due.is("charge", all.about(1), 36000 - 7);
    }

    private static void notBelow0() {
        Due.sentence("(at the end; not below 0)");
        int[] before = {3, 2, 1, 0};
        int[] still = {2, 1, 0, 0};
        int[] running = {1, 0, 0, 0};
        for (int i = 0; i < before.length; i++) {
            DosePump pump = charged(before[i], "36");
            pump.ticks(1);
            Due.is("READY, from " + before[i], pump.about(1), still[i]);
            DosePump runs = charged(before[i], "36");
            Keys.press(runs, "R");
            Due.is("a stroke", runs.ticks(1), 1);
            Due.is("RUNS, from " + before[i], runs.about(1), running[i]);
        }
        DosePump far = charged(10, "999.9");
        Keys.press(far, "R");
        Due.is("27 strokes", far.ticks(1), 27);
        Due.is("from 10", far.about(1), 0);
        far.ticks(600);
        Due.is("it stays there", far.about(1), 0);
    }

    private static void strokesAtTheEnd() {
        Due.sentence("by 1 for each stroke of this tick (at the end); Behind all channels: alarm 6, alarm 3");
        DosePump low = charged(3601, "36");
        Keys.press(low, "R");
        low.ticks(1);
        Due.is("3599 by its stroke", low.about(1), 3599);
        Due.is("LOW in this tick", low.channel(0, 1), 64);
        DosePump empty = charged(2, "36");
        Keys.press(empty, "R");
        empty.ticks(1);
        Due.is("0 by its stroke", empty.about(1), 0);
        Due.is("EMPTY in this tick", empty.channel(1, 1), 8);
    }

    private static void low() {
        Due.sentence("alarm 6 of channel 0 when the charge is below 3600 without mains");
        DosePump pump = charged(3602, "36");
        pump.ticks(1);
        Due.is("3601", pump.channel(0, 1), 0);
        pump.ticks(1);
        Due.is("3600", pump.channel(0, 1), 0);
        pump.ticks(1);
        Due.is("3599", pump.channel(0, 1), 64);
        Due.is("not of 1", pump.channel(1, 1), 0);
        Due.is("not of 2", pump.channel(2, 1), 0);
        Due.same("logged", Keys.logged(pump), "32401 7 0 6");
        int entries = pump.about(4);
        pump.ticks(2);
        Due.is("latched once", pump.about(4), entries);
        DosePump runs = charged(3700, "36");
        Keys.press(runs, "R");
        runs.ticks(50);
        Due.is("3600", runs.about(1), 3600);
        Due.is("no alarm", runs.channel(0, 1), 0);
        runs.ticks(1);
        Due.is("alarm 6", runs.channel(0, 1), 64);
        Due.is("it stops none", runs.channel(1, 0), 7);
    }

    private static void lowWithMains() {
        Due.sentence("below 3600 without mains (and with them)");
        DosePump pump = charged(3590, "36");
        pump.mains(true);
        Keys.press(pump, "NNA");
        Due.is("taken", pump.channel(0, 1), 0);
        pump.ticks(1);
        Due.is("3594 with mains", pump.about(1), 3594);
        Due.is("no alarm", pump.channel(0, 1), 0);
        pump.mains(false);
        Due.is("nor by the call", pump.channel(0, 1), 0);
        pump.ticks(1);
        Due.is("3593 without", pump.about(1), 3593);
        Due.is("alarm 6", pump.channel(0, 1), 64);
    }

    private static void empty() {
        Due.sentence("alarm 3 of each channel that RUNS when it is 0");
        DosePump pump = charged(3, "0.1");
        Keys.press(pump, "RNB0E0.1E0ER");
        pump.ticks(1);
        Due.is("2", pump.channel(1, 1) + pump.channel(2, 1), 0);
        pump.ticks(1);
        Due.is("1", pump.channel(1, 1) + pump.channel(2, 1), 0);
        Due.is("RUNS", pump.channel(1, 0), 7);
        int first = pump.about(4);
        pump.ticks(1);
        Due.is("0, of channel 1", pump.channel(1, 1), 8);
        Due.is("0, of channel 2", pump.channel(2, 1), 8);
        Due.is("HOLDS", pump.channel(1, 0), 8);
        Due.is("HOLDS", pump.channel(2, 0), 8);
        Due.same("1 first", Keys.logged(pump, first), "36000 7 1 3");
        Due.same("then 2", Keys.logged(pump, first + 1), "36000 7 2 3");
        Due.is("channel 0 does not run", pump.channel(0, 1), 64);
    }

    private static void emptyThatDoesNotRun() {
        Due.sentence("of each channel that RUNS (and of no other one)");
        for (int phase = 0; phase <= 8; phase++) {
            DosePump pump = Keys.pump();
            pump.mains(false);
            Keys.ticks(pump, 35999);
            Keys.press(pump, Keys.WAYS[phase]);
            Due.is("charge 1, phase", pump.channel(0, 0), phase);
            pump.ticks(1);
            Due.is("alarms in " + phase, pump.channel(0, 1), phase == 7 ? 64 + 8 : 64);
        }
    }

    private static void runsWithoutCharge() {
        Due.sentence("alarm 3 of each channel that RUNS when it is 0 (and was before)");
        DosePump pump = charged(0, "36");
        Due.is("RUN is not refused", Keys.press(pump, "R"), 7);
        Due.is("its strokes come first", pump.ticks(1), 1);
        Due.is("alarm 3", pump.channel(1, 1), 8);
        Due.is("none more", pump.ticks(10), 0);
        DosePump mains = charged(0, "36");
        mains.mains(true);
        Keys.press(mains, "R");
        Due.is("with mains it is 4", mains.ticks(1), 1);
        Due.is("no alarm", mains.channel(1, 1), 0);
    }
}
