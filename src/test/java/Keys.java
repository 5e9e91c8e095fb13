/** Presses keys from a text: figures and point as they are, and a letter for each other key. */
final class Keys {
    private static final String NAMES = "0123456789.CEBRSAOPQNY";

    /** Keys that bring channel 0 of pump() into each phase. */
    static final String[] WAYS =
        {"", "B", "B1E", "B0E", "B0E1E", "B1E70E0.05E", "B0E1E0E", "B0E1E0ER", "B0E1E0ERS"};

    private Keys() {
    }

    static int number(char name) {
        return NAMES.indexOf(name);
    }

    /** What the last key answered. */
    static int press(DosePump pump, String keys) {
        int answer = 0;
        for (char name : keys.toCharArray()) {
            answer = pump.key(number(name));
        }
        return answer;
    }

    /** What every key answered, in a text. */
    static String answers(DosePump pump, String keys) {
        StringBuilder all = new StringBuilder();
        for (char name : keys.toCharArray()) {
            all.append(all.length() == 0 ? "" : " ").append(pump.key(number(name)));
        }
        return all.toString();
    }

    /** A pump with drug 0 of kind 0, all amounts let in, and drug 1 of kind 1. */
    static DosePump pump() {
        DosePump pump = new DosePump();
        pump.drug(0, 0, 1, 1, 1, 99999, 99999);
        pump.drug(1, 1, 50, 1, 10, 500, 900);
        return pump;
    }

    /** Such a pump whose channel 0 runs, with an amount and a volume as they are typed. */
    static DosePump running(String amount, String volume) {
        DosePump pump = pump();
        press(pump, "B0E" + amount + "E" + volume + "ER");
        return pump;
    }

    /** Such a pump whose channel 0 is in a phase. */
    static DosePump inPhase(int phase) {
        DosePump pump = pump();
        press(pump, WAYS[phase]);
        Due.is("the way to phase " + phase, pump.channel(0, 0), phase);
        return pump;
    }

    static void ticks(DosePump pump, int n) {
        for (int left = n; left > 0; left -= 600) {
            pump.ticks(Math.min(600, left));
        }
    }

    /** The latest entry of the log, as time kind channel number. */
    static String logged(DosePump pump) {
        return logged(pump, pump.about(4) - 1);
    }

    static String logged(DosePump pump, int i) {
        return pump.log(i, 0) + " " + pump.log(i, 1) + " " + pump.log(i, 2) + " " + pump.log(i, 3);
    }

    /** All that can be asked without a change. */
    static String state(DosePump pump) {
        StringBuilder all = new StringBuilder().append(pump.chain());
        for (int what = 0; what < 5; what++) {
            all.append(' ').append(pump.about(what));
        }
        for (int what = 0; what < 3; what++) {
            all.append(' ').append(pump.entry(what));
        }
        for (int c = 0; c < 3; c++) {
            for (int what = 0; what < 15; what++) {
                all.append(' ').append(pump.channel(c, what));
            }
        }
        return all.toString();
    }
}
