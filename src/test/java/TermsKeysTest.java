/** The edges that 'Terms' names for the keys of the keypad, sentence by sentence. */
public final class TermsKeysTest {
    public static void main(String[] args) {
        chosenAtFirst();
        cameFrom();
        clearWithNumber();
        clearWithout();
        clearInSoft();
        enterWithNumber();
        enterDrug();
        enterWeight();
        enterAmount();
        amountsThatAreEqual();
        hardHasNoNumber();
        enterVolume();
        newProgram();
        begin();
        run();
        stop();
        ackInAnyPhase();
        over();
        next();
        others();
        noNumberFromPhaseToPhase();
        Due.end();
    }

    private static void chosenAtFirst() {
        Due.sentence("THE KEYPAD works on the CHOSEN channel (at first 0)");
        DosePump pump = Keys.pump();
        Due.is("chosen", pump.about(2), 0);
        Keys.press(pump, "B");
        Due.same("phases", phases(pump), "1 0 0");
        Keys.press(pump, "NB0E");
        Due.same("phases", phases(pump), "1 3 0");
        Keys.press(pump, "NB1E");
        Due.same("phases", phases(pump), "1 3 2");
        Keys.press(pump, "NS");
        Due.same("phases", phases(pump), "0 3 2");
    }

    private static String phases(DosePump pump) {
        return pump.channel(0, 0) + " " + pump.channel(1, 0) + " " + pump.channel(2, 0);
    }

    private static void cameFrom() {
        Due.sentence("Phases 1 to 5 are of an ENTRY, which begins in phase 0, 6 or 8 (the one it CAME FROM), "
            + "and is DROPPED by going back there");
        String[] on = {"", "1E", "0E", "0E1E", "1E70E0.05E"};
        for (int from : new int[] {0, 6, 8}) {
            for (int phase = 1; phase <= 5; phase++) {
                DosePump pump = Keys.inPhase(from);
                Keys.press(pump, "B" + on[phase - 1]);
                Due.is("phase", pump.channel(0, 0), phase);
                Due.is("back to " + from, Keys.press(pump, "S"), from);
                Keys.press(pump, "B" + on[phase - 1]);
                pump.ticks(60);
                Due.is("by time, back to " + from, pump.channel(0, 0), from);
                Due.same("it is logged", Keys.logged(pump), "60 9 0 " + phase);
            }
        }
    }

    private static void clearWithNumber() {
        Due.sentence("11 CLEAR: in phases 1 to 4: no number any more");
        for (int phase = 1; phase <= 4; phase++) {
            for (String number : new String[] {"0", "1", "1234", "1.", "1.2"}) {
                DosePump pump = Keys.inPhase(phase);
                Keys.press(pump, number);
                Due.is("CLEAR behind " + number, Keys.press(pump, "C"), phase);
                Due.is("the number", pump.entry(0), 0);
                Due.is("its length", pump.entry(1), 0);
                Due.is("ENTER without it", Keys.press(pump, "E"), -1);
            }
        }
    }

    private static void clearWithout() {
        Due.sentence("if there is none, the entry is dropped");
        for (int phase = 1; phase <= 4; phase++) {
            DosePump pump = Keys.inPhase(phase);
            Due.is("CLEAR in " + phase, Keys.press(pump, "C"), 0);
            Due.same("it is logged", Keys.logged(pump), "0 9 0 " + phase);
            DosePump twice = Keys.inPhase(phase);
            Due.same("behind a number", Keys.answers(twice, "0CC"), phase + " " + phase + " 0");
        }
        for (int phase : new int[] {0, 6, 7, 8}) {
            refused(phase, "C");
        }
    }

    private static void clearInSoft() {
        Due.sentence("In SOFT: phase 3, without a number");
        DosePump pump = Keys.inPhase(5);
        int entries = pump.about(4);
        Due.is("CLEAR in SOFT", Keys.press(pump, "C"), 3);
        Due.is("length", pump.entry(1), 0);
        Due.is("it is not dropped", pump.about(4), entries);
        Due.is("ENTER without a number", Keys.press(pump, "E"), -1);
        Due.is("CLEAR again", Keys.press(pump, "C"), 0);
        Due.same("now it is", Keys.logged(pump), "0 9 0 3");
    }

    private static void enterWithNumber() {
        Due.sentence("12 ENTER: in phases 1 to 4, with a number that does not end with a point");
        int[] then = {0, 3, 3, 4, 6};
        for (int phase = 1; phase <= 4; phase++) {
            refused(phase, "E");
            String number = phase == 1 ? "0" : "1";
            Due.is("with " + number, Keys.press(Keys.inPhase(phase), number + "E"), then[phase]);
            if (phase > 1) {
                DosePump pump = Keys.inPhase(phase);
                Keys.press(pump, "1.");
                String before = Keys.state(pump);
                Due.is("behind a point in " + phase, Keys.press(pump, "E"), -1);
                Due.same("nothing changed", Keys.state(pump), before);
                Due.is("behind a figure behind it", Keys.press(pump, "0E"), then[phase]);
            }
        }
        for (int phase : new int[] {0, 5, 6, 7, 8}) {
            refused(phase, "E");
        }
    }

    private static void enterDrug() {
        Due.sentence("DRUG: a drug that was told; then WEIGHT (kind 1) or AMOUNT");
        DosePump pump = new DosePump();
        Keys.press(pump, "B");
        for (int d = 0; d < 16; d++) {
            Due.is("none is told, " + d, Keys.press(pump, d + "E"), -1);
            Keys.press(pump, "C");
        }
        pump.drug(0, 0, 1, 1, 1, 1, 1);
        pump.drug(15, 1, 1, 1, 1, 1, 1);
        for (String untold : new String[] {"1", "14", "16", "17", "9999"}) {
            Due.is(untold, Keys.press(pump, untold + "E"), -1);
            Due.is("its number stays", pump.entry(0), Integer.parseInt(untold));
            Keys.press(pump, "C");
        }
        Due.is("0, of kind 0", Keys.press(pump, "0E"), 3);
        Due.is("15, of kind 1", Keys.press(pump, "SB15E"), 2);
    }

    private static void enterWeight() {
        Due.sentence("WEIGHT: 5 .. 3000");
        String[] no = {"0", "0.0", "0.1", "0.4", "300.1", "301", "3000", "9999.9"};
        for (String weight : no) {
            DosePump pump = Keys.inPhase(2);
            Keys.press(pump, weight);
            String before = Keys.state(pump);
            Due.is(weight, Keys.press(pump, "E"), -1);
            Due.same("nothing changed", Keys.state(pump), before);
        }
        for (String weight : new String[] {"0.5", "0.6", "1", "299.9", "300", "300.0"}) {
            Due.is(weight, Keys.press(Keys.inPhase(2), weight + "E"), 3);
        }
    }

    private static void enterAmount() {
        Due.sentence("AMOUNT: if it is below HARD LOW, above HARD HIGH, or its rate is not 1 .. 9999: HARD; "
            + "if it is from SOFT LOW to SOFT HIGH: VOLUME; else SOFT");
        int[] due = {-2, 5, 5, 5, 4, 4, 4, 4, 5, 5, 5, -2};
        String[] rates = {"0.9", "1", "1.1", "1.9", "2", "2.1", "99.9", "100", "100.1", "199.9", "200", "200.1"};
        String[] doses = {"0.09", "0.1", "0.11", "0.19", "0.2", "0.21", "9.99", "10", "10.01", "19.99", "20", "20.01"};
        for (int i = 0; i < due.length; i++) {
            DosePump pump = new DosePump();
            pump.drug(0, 0, 1, 10, 20, 1000, 2000);
            pump.drug(1, 1, 50, 10, 20, 1000, 2000);
            Due.is(rates[i], Keys.press(pump, "B0E" + rates[i] + "E"), due[i]);
            Due.is("phase", pump.channel(0, 0), due[i] == -2 ? 3 : due[i]);
            Due.is("a dose of " + doses[i], Keys.press(pump, "SB1E10E" + doses[i] + "E"), due[i]);
            Due.is("phase", pump.channel(0, 0), due[i] == -2 ? 3 : due[i]);
        }
        DosePump wide = new DosePump();
        wide.drug(0, 1, 3, 1, 5, 20000, 99999);
        Due.is("9999, from SOFT LOW to SOFT HIGH", Keys.press(wide, "B0E0.5E99.99E"), 4);
        Due.is("10000 is HARD before it is that", Keys.press(wide, "SB0E0.5E100E"), -2);
        wide.drug(1, 1, 3, 1, 5, 6, 99999);
        Due.is("9999 in SOFT", Keys.press(wide, "SB1E0.5E99.99E"), 5);
        Due.is("10000 is not", Keys.press(wide, "SB1E0.5E100E"), -2);
    }

    private static void amountsThatAreEqual() {
        Due.sentence("HARD LOW <= SOFT LOW <= SOFT HIGH <= HARD HIGH (and ENTER, when there is no SOFT between them)");
        DosePump pump = new DosePump();
        pump.drug(0, 0, 1, 10, 10, 20, 20);
        String[] amounts = {"0.9", "1", "2", "2.1"};
        int[] due = {-2, 4, 4, -2};
        for (int i = 0; i < due.length; i++) {
            Due.is(amounts[i], Keys.press(pump, "B0E" + amounts[i] + "E"), due[i]);
            Keys.press(pump, "S");
        }
    }

    private static void hardHasNoNumber() {
        Due.sentence("HARD, and there is no number any more");
        DosePump pump = Keys.pump();
        for (String amount : new String[] {"0", "0.0", "1000", "9999.9"}) {
            Due.is(amount, Keys.press(pump, "B0E" + amount + "E"), DosePump.HARD);
            Due.is("number", pump.entry(0), 0);
            Due.is("length", pump.entry(1), 0);
            Due.is("phase", pump.channel(0, 0), 3);
            Due.is("ENTER without one", Keys.press(pump, "E"), -1);
            Due.is("CLEAR drops", Keys.press(pump, "C"), 0);
        }
        Due.is("another amount behind it", Keys.press(pump, "B0E1000E1E"), 4);
    }

    private static void enterVolume() {
        Due.sentence("VOLUME (in tenths of a millilitre, ten strokes each; 0: without end)");
        String[] volumes = {"0", "0.0", "0.1", "0.2", "1", "9999.8", "9999.9"};
        int[] left = {-1, -1, 10, 20, 100, 999980, 999990};
        for (int i = 0; i < left.length; i++) {
            DosePump pump = Keys.inPhase(4);
            Due.is("VOLUME " + volumes[i], Keys.press(pump, volumes[i] + "E"), 6);
            Due.is("left of " + volumes[i], pump.channel(0, 3), left[i]);
        }
        DosePump endless = Keys.running("999.9", "0");
        Keys.ticks(endless, 7200);
        Due.is("without end", endless.channel(0, 3), -1);
        Due.is("never DONE", endless.channel(0, 1), 0);
    }

    private static void newProgram() {
        Due.sentence("the channel is READY with a new PROGRAM: drug, rate, strokes that are LEFT; "
            + "it has made none of it, has no DEBT, no bolus");
        DosePump pump = Keys.pump();
        pump.more(0, 100000, 500, 1, 0, 20);
        Keys.press(pump, "B0E54E100ERP");
        pump.ticks(3);
        Due.is("DEBT before", pump.channel(0, 5), 180);
        Due.is("strokes before", pump.channel(0, 4), 7);
        pump.door(0, true);
        pump.door(0, false);
        Keys.press(pump, "AB1E70E1E2E");
        int[] whats = {0, 2, 3, 4, 5, 6, 13};
        int[] due = {6, 840, 200, 0, 0, 0, 1};
        for (int i = 0; i < whats.length; i++) {
            Due.is("what " + whats[i], pump.channel(0, whats[i]), due[i]);
        }
        Due.is("it RUNS from there", Keys.press(pump, "R"), 7);
        Due.is("2 of 840", pump.ticks(1), 2);
    }

    private static void begin() {
        Due.sentence("13 BEGIN: in phases 0, 6, 8: phase 1 (it waits to RELAY no more)");
        for (int phase : new int[] {0, 6, 8}) {
            DosePump pump = Keys.inPhase(phase);
            if (phase > 0) {
                Keys.press(pump, "Y");
                Due.is("it waits", pump.channel(0, 11), 1);
            }
            Due.is("BEGIN in " + phase, Keys.press(pump, "B"), 1);
            Due.is("no more", pump.channel(0, 11), 0);
            Keys.press(pump, "S");
            Due.is("nor behind the drop", pump.channel(0, 11), 0);
        }
        for (int phase : new int[] {1, 2, 3, 4, 5, 7}) {
            refused(phase, "B");
        }
    }

    private static void run() {
        Due.sentence("14 RUN: in 6 and 8, if its door is closed: 7 (likewise)");
        for (int phase : new int[] {6, 8}) {
            DosePump pump = Keys.inPhase(phase);
            Keys.press(pump, "Y");
            pump.door(0, true);
            String before = Keys.state(pump);
            Due.is("an open door", Keys.press(pump, "R"), -1);
            Due.same("nothing changed, it waits on", Keys.state(pump), before);
            pump.door(0, false);
            pump.door(1, true);
            Due.is("a closed door", Keys.press(pump, "R"), 7);
            Due.is("it waits no more", pump.channel(0, 11), 0);
        }
        for (int phase : new int[] {0, 1, 2, 3, 4, 5, 7}) {
            refused(phase, "R");
        }
    }

    private static void stop() {
        Due.sentence("15 STOP: in 7: 8, and its bolus is gone; in 1 to 5: the entry is dropped");
        DosePump pump = Keys.pump();
        pump.more(0, 100000, 2, 1, 0, 20);
        Keys.press(pump, "B0E0.1E0ERP");
        pump.ticks(1);
        Due.is("one is left of the bolus", pump.channel(0, 6), 1);
        Due.is("STOP", Keys.press(pump, "S"), 8);
        Due.is("gone", pump.channel(0, 6), 0);
        Keys.press(pump, "R");
        Due.is("it does not come back", pump.ticks(10), 0);
        for (int phase = 1; phase <= 5; phase++) {
            Due.is("STOP in " + phase, Keys.press(Keys.inPhase(phase), "S"), 0);
        }
        for (int phase : new int[] {0, 6, 8}) {
            refused(phase, "S");
        }
    }

    private static void ackInAnyPhase() {
        Due.sentence("16 ACK: see below, in any phase");
        for (int phase = 0; phase <= 8; phase++) {
            DosePump pump = Keys.pump();
            pump.mains(false);
            Keys.ticks(pump, 32401);
            Due.is("alarm 6", pump.channel(0, 1), 64);
            Keys.press(pump, Keys.WAYS[phase]);
            Due.is("ACK that takes none in " + phase, Keys.press(pump, "A"), -1);
            pump.mains(true);
            Due.is("ACK in " + phase, Keys.press(pump, "A"), phase);
            Due.is("phase", pump.channel(0, 0), phase);
            Due.is("it is taken", pump.channel(0, 1), 0);
            Due.is("ACK again", Keys.press(pump, "A"), -1);
        }
    }

    private static void over() {
        Due.sentence("17 OVER: in SOFT: VOLUME");
        DosePump pump = Keys.inPhase(5);
        Due.is("OVER", Keys.press(pump, "O"), 4);
        Due.is("OVER again", Keys.press(pump, "O"), -1);
        Keys.press(pump, "0E");
        Due.is("with the amount that was SOFT", pump.channel(0, 2), 42);
        for (int phase : new int[] {0, 1, 2, 3, 4, 6, 7, 8}) {
            refused(phase, "O");
        }
    }

    private static void next() {
        Due.sentence("20 NEXT: the next channel is chosen (0 behind 2)");
        for (int phase = 0; phase <= 8; phase++) {
            DosePump pump = Keys.inPhase(phase);
            Due.is("the phase of the one before", Keys.press(pump, "N"), phase);
            Due.is("1 behind 0", pump.about(2), 1);
            Due.is("the phase of 1", Keys.press(pump, "N"), 0);
            Due.is("2 behind 1", pump.about(2), 2);
            Due.is("the phase of 2", Keys.press(pump, "N"), 0);
            Due.is("0 behind 2", pump.about(2), 0);
            Due.is("nothing else", pump.channel(0, 0), phase);
        }
    }

    private static void others() {
        Due.sentence("All others in other phases are REFUSED");
        String[] refused = {"0.CERSAOPY", ".EBRAOPY", ".EBRAOPY", ".EBRAOPY", ".EBRAOPY", "0.EBRAPY", "0.CESAOP",
            "0.CEBRAOPY", "0.CESAOP"};
        for (int phase = 0; phase <= 8; phase++) {
            for (char name : refused[phase].toCharArray()) {
                if (name != 'P' || phase != 7) {
                    refused(phase, "" + name);
                }
            }
        }
    }

    /** The key is refused in the phase, and nothing is changed by it. */
    private static void refused(int phase, String key) {
        DosePump pump = Keys.inPhase(phase);
        pump.ticks(2);
        String before = Keys.state(pump);
        Due.is("key " + key + " in phase " + phase, Keys.press(pump, key), DosePump.REFUSED);
        Due.same("nothing changed by " + key + " in " + phase, Keys.state(pump), before);
    }

    private static void noNumberFromPhaseToPhase() {
        Due.sentence("When an entry goes from phase to phase it has no number");
        DosePump pump = Keys.pump();
        int[] phases = {1, 2, 3, 5, 3, 5, 4, 6, 1, 3, 4, 6};
        String[] keys = {"B", "1E", "70E", "0.05E", "C", "0.05E", "O", "0.1E", "B", "0E", "1E", "0E"};
        for (int i = 0; i < keys.length; i++) {
            Due.is("behind " + keys[i], Keys.press(pump, keys[i]), phases[i]);
            Due.is("number", pump.entry(0), 0);
            Due.is("length", pump.entry(1), 0);
        }
    }
}
