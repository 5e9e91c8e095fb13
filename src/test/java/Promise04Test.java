/** key: every key in every phase, numbers, limits, entries; boluses, alarms and relays as far as keys go. */
public final class Promise04Test {
    public static void main(String[] args) {
        everyKeyInEveryPhase();
        noSuchKey();
        numbers();
        drugsAndWeights();
        limits();
        programs();
        drops();
        timeouts();
        runs();
        stops();
        boluses();
        bolusesInAnHour();
        silences();
        relays();
        Due.end();
    }

    private static void everyKeyInEveryPhase() {
        Due.sentence("the phase of the channel that was chosen before it, or REFUSED, or HARD");
        String[] ways = {"", "B", "B1E", "B0E", "B0E1E", "B1E70E0.05E", "B0E1E0E", "B0E1E0ER", "B0E1E0ERS"};
        int[][] others = { // keys 10 to 21
            {-1, -1, -1, 1, -1, -1, -1, -1, -1, 0, 0, -1},
            {-1, 0, -1, -1, -1, 0, -1, -1, -1, 1, 1, -1},
            {-1, 0, -1, -1, -1, 0, -1, -1, -1, 2, 2, -1},
            {-1, 0, -1, -1, -1, 0, -1, -1, -1, 3, 3, -1},
            {-1, 0, -1, -1, -1, 0, -1, -1, -1, 4, 4, -1},
            {-1, 3, -1, -1, -1, 0, -1, 4, -1, 5, 5, -1},
            {-1, -1, -1, 1, 7, -1, -1, -1, -1, 6, 6, 6},
            {-1, -1, -1, -1, -1, 8, -1, -1, -1, 7, 7, -1},
            {-1, -1, -1, 1, 7, -1, -1, -1, -1, 8, 8, 8},
        };
        for (int phase = 0; phase <= 8; phase++) {
            for (int k = 0; k <= 21; k++) {
                DosePump pump = Keys.pump();
                Keys.press(pump, ways[phase]);
                Due.is("phase", pump.channel(0, 0), phase);
                int due = k >= 10 ? others[phase][k - 10] : phase >= 1 && phase <= 4 ? phase : -1;
                Due.is("key " + k + " in phase " + phase, pump.key(k), due);
                Due.is("phase behind key " + k + " in " + phase, pump.channel(0, 0), due < 0 ? phase : due);
                Due.is("chosen behind key " + k, pump.about(2), k == 20 ? 1 : 0);
            }
        }
    }

    private static void noSuchKey() {
        Due.sentence("IllegalArgumentException when there is no such key");
        DosePump pump = new DosePump();
        for (int k : new int[] {-1, 22, Integer.MIN_VALUE, Integer.MAX_VALUE}) {
            Due.argument("key " + k, () -> pump.key(k));
        }
        Due.is("nothing changed", pump.chain(), 1);
        Due.is("key 0", pump.key(0), -1);
        Due.is("key 21", pump.key(21), -1);
        Keys.press(pump, "B");
        Due.is("key 0", pump.key(0), 1);
        String before = Keys.state(pump);
        Due.argument("key 22", () -> pump.key(22));
        Due.same("nothing changed in an entry", Keys.state(pump), before);
    }

    private static void numbers() {
        Due.sentence("FIGURES and POINT make a NUMBER");
        DosePump pump = Keys.pump();
        Due.same("DRUG", Keys.answers(pump, "B.1.2345"), "1 -1 1 -1 1 1 1 -1");
        Due.same("no figure behind a first 0", Keys.answers(pump, "C00.5E"), "1 1 -1 -1 -1 3");
        Due.same("AMOUNT of kind 0", Keys.answers(pump, ".0.0.5"), "-1 3 3 3 -1 -1");
        Due.same("AMOUNT, four figures", Keys.answers(pump, "C12345.6.7"), "3 3 3 3 3 -1 3 3 -1 -1");
        Keys.press(pump, "SB1E");
        Due.same("WEIGHT", Keys.answers(pump, ".20050.5.5"), "-1 2 2 2 2 -1 2 2 -1 -1");
        Due.same("WEIGHT, first 0", Keys.answers(pump, "C000.70"), "2 2 -1 -1 2 2 -1");
        Due.same("no ENTER behind a point", Keys.answers(pump, "C7.E0E"), "2 2 2 -1 2 3");
        Due.same("AMOUNT of kind 1", Keys.answers(pump, ".1.00.0"), "-1 3 3 3 3 -1 -1");
        Due.same("VOLUME", Keys.answers(pump, "E.9999.99"), "4 -1 4 4 4 4 4 4 -1");
        Due.same("READY", Keys.answers(pump, "E"), "6");
        Due.is("its strokes", pump.channel(0, 3), 999990);
    }

    private static void drugsAndWeights() {
        Due.sentence("DRUG: a drug that was told; WEIGHT: 5 .. 3000");
        DosePump pump = Keys.pump();
        pump.drug(15, 1, 1, 1, 1, 99999, 99999);
        Due.same("no such drug", Keys.answers(pump, "B2EC16EC9999EC15E"),
            "1 1 -1 1 1 1 -1 1 1 1 1 1 -1 1 1 1 2");
        Due.same("WEIGHT below", Keys.answers(pump, "0EC0.4E"), "2 -1 2 2 2 2 -1");
        Due.is("the number stays when it is refused", pump.entry(0), 4);
        Due.same("WEIGHT above", Keys.answers(pump, "C300.1E"), "2 2 2 2 2 2 -1");
        Due.same("least WEIGHT", Keys.answers(pump, "C0.5E"), "2 2 2 2 3");
        Due.same("greatest WEIGHT", Keys.answers(pump, "SB15E300E"), "0 1 1 1 2 2 2 2 3");
    }

    private static void limits() {
        Due.sentence("AMOUNT: HARD, VOLUME or SOFT");
        DosePump pump = new DosePump();
        pump.drug(0, 0, 1, 10, 20, 1000, 2000);
        pump.drug(1, 1, 100, 1, 2, 99999, 99999);
        pump.drug(2, 0, 1, 1, 1, 99999, 99999);
        String[] amounts = {"0", "0.9", "1", "1.9", "2", "100", "100.1", "200", "200.1", "9999.9"};
        int[] due = {-2, -2, 5, 5, 4, 4, 5, 5, -2, -2};
        for (int i = 0; i < due.length; i++) {
            Due.is("amount " + amounts[i], Keys.press(pump, "B0E" + amounts[i] + "E"), due[i]);
            Due.is("no number any more", pump.entry(1), 0);
            Due.is("phase", pump.channel(0, 0), due[i] < 0 ? 3 : due[i]);
            Keys.press(pump, "S");
        }
        Due.is("rate 0", Keys.press(pump, "B1E0.5E0.16E"), -2);
        Due.is("rate 1", Keys.press(pump, "0.17E"), 4);
        Due.is("rate 9999", Keys.press(pump, "SB1E100E16.66E"), 4);
        Due.is("rate 10002", Keys.press(pump, "SB1E100E16.67E"), -2);
        Due.same("HARD of kind 1 is logged", Keys.logged(pump), "0 1 0 1667");
        Due.is("rate 9999 of kind 0", Keys.press(pump, "SB2E999.9E"), 4);
        Due.is("rate 10000 of kind 0", Keys.press(pump, "SB2E1000E"), -2);
        Due.is("below HARD LOW, above by its rate", Keys.press(pump, "9999.9E"), -2);
        Due.is("OVER", Keys.press(pump, "SB0E1EO"), 4);
        Due.same("OVER is logged", Keys.logged(pump), "0 2 0 10");
        Due.is("CLEAR in SOFT", Keys.press(pump, "SB0E1EC"), 3);
        Due.is("without a number", pump.entry(1), 0);
        Due.is("its amount is asked anew", Keys.press(pump, "50E0E"), 6);
        Due.is("rate", pump.channel(0, 2), 500);
    }

    private static void programs() {
        Due.sentence("the channel is READY with a new PROGRAM");
        DosePump pump = Keys.running("54", "2.5");
        Due.is("rate", pump.channel(0, 2), 540);
        Due.is("left", pump.channel(0, 3), 250);
        Due.is("drug", pump.channel(0, 13), 0);
        pump.ticks(3);
        Due.is("debt", pump.channel(0, 5), 180);
        Keys.press(pump, "SB1E70E1E");
        Due.is("the old program stays under an entry", pump.channel(0, 2), 540);
        Due.is("and what it made", pump.channel(0, 4), 4);
        Keys.press(pump, "0E");
        Due.is("rate of a dose", pump.channel(0, 2), 840);
        Due.is("without end", pump.channel(0, 3), -1);
        Due.is("made none", pump.channel(0, 4), 0);
        Due.is("no debt", pump.channel(0, 5), 0);
        Due.is("drug", pump.channel(0, 13), 1);
        Due.is("strokes in all stay", pump.channel(0, 14), 4);
        Due.same("a program is logged", Keys.logged(pump), "3 0 0 840");
    }

    private static void drops() {
        Due.sentence("DROPPED by going back there");
        String[] keys = {"B", "B1E", "B0E", "B0E1E", "B1E70E0.05E"};
        for (int i = 0; i < keys.length; i++) {
            DosePump pump = Keys.pump();
            Due.is("STOP drops to IDLE", Keys.press(pump, keys[i] + "S"), 0);
            Due.same("it is logged", Keys.logged(pump), "0 9 0 " + (i + 1));
            Keys.press(pump, "B0E1E0E");
            Due.is("STOP drops to READY", Keys.press(pump, keys[i] + "S"), 6);
            Due.is("STOP drops to HOLDS", Keys.press(pump, "RS" + keys[i] + "S"), 8);
            Due.is("CLEAR drops as well", Keys.press(pump, keys[i] + (i == 4 ? "CC" : "C")), 8);
            Due.same("it is logged", Keys.logged(pump), "0 9 0 " + (i == 4 ? 3 : i + 1));
        }
        DosePump pump = Keys.pump();
        Due.same("CLEAR takes the number first", Keys.answers(pump, "B12CC"), "1 1 1 1 0");
        Keys.press(pump, "B12S");
        Due.is("a new entry has no number", Keys.press(pump, "B"), 1);
        Due.is("none", pump.entry(1), 0);
    }

    private static void timeouts() {
        Due.sentence("dropped at the end of the 60th tick");
        for (String kept : new String[] {"1", "C", "0E"}) {
            DosePump pump = Keys.pump();
            Keys.press(pump, kept.equals("C") ? "B1" : "B");
            pump.ticks(59);
            Keys.press(pump, kept);
            pump.ticks(59);
            Due.is("kept by " + kept, pump.channel(0, 0), kept.equals("0E") ? 3 : 1);
            pump.ticks(1);
            Due.is("dropped at the 60th", pump.channel(0, 0), 0);
        }
        for (String idle : new String[] {"A", "P", "Q", "NNN", "E", "R", "B", "Y", "O", "."}) {
            DosePump pump = Keys.pump();
            Keys.press(pump, "B");
            pump.ticks(59);
            Keys.press(pump, idle);
            pump.ticks(1);
            Due.is("not kept by " + idle, pump.channel(0, 0), 0);
            Due.same("it is logged", Keys.logged(pump), "60 9 0 1");
        }
        DosePump hard = Keys.pump();
        Keys.press(hard, "B0E1000");
        hard.ticks(59);
        Due.is("HARD", Keys.press(hard, "E"), -2);
        hard.ticks(59);
        Due.is("kept by HARD", hard.channel(0, 0), 3);
        DosePump two = Keys.pump();
        Keys.press(two, "B");
        two.ticks(30);
        Keys.press(two, "NB1");
        two.ticks(30);
        Due.is("of another channel", two.channel(0, 0), 0);
        Due.is("not of this one", two.channel(1, 0), 1);
        Due.is("and it has its number", two.entry(0), 1);
    }

    private static void runs() {
        Due.sentence("14 RUN");
        DosePump pump = Keys.pump();
        Keys.press(pump, "B0E36E0E");
        pump.door(0, true);
        Due.is("no RUN with an open door", Keys.press(pump, "R"), -1);
        pump.door(0, false);
        Due.is("RUN", Keys.press(pump, "R"), 7);
        Due.same("it is logged", Keys.logged(pump), "0 3 0 360");
        pump.door(0, true);
        pump.door(0, false);
        Due.is("no RUN with alarm 2", Keys.press(pump, "R"), -1);
        Due.same("ACK, RUN", Keys.answers(pump, "AR"), "8 7");
        DosePump air = Keys.running("36", "0");
        air.air(0, true);
        air.ticks(5);
        air.air(0, false);
        Due.same("no RUN with alarm 0", Keys.answers(air, "RAR"), "-1 8 7");
        air.flow(0, 0);
        air.ticks(60);
        Due.same("no RUN with alarm 1", Keys.answers(air, "RAR"), "-1 8 7");
        DosePump done = Keys.running("36", "0.1");
        done.ticks(10);
        Due.same("alarm 5 does not hinder", Keys.answers(done, "SR"), "8 7");
    }

    private static void stops() {
        Due.sentence("15 STOP");
        DosePump pump = Keys.pump();
        pump.more(0, 100000, 50, 1, 0, 20);
        Keys.press(pump, "B0E36E0ERP");
        pump.ticks(5);
        Due.is("what is left of the bolus", pump.channel(0, 6), 45);
        Due.is("STOP", Keys.press(pump, "S"), 8);
        Due.is("the bolus is gone", pump.channel(0, 6), 0);
        Due.same("it is logged", Keys.logged(pump), "5 4 0 10");
        Due.is("it makes none", pump.ticks(10), 0);
        Keys.press(pump, "R");
        Due.is("without the bolus", pump.ticks(10), 10);
    }

    private static void boluses() {
        Due.sentence("A BOLUS is begun by key 18 in RUNS");
        DosePump pump = Keys.pump();
        pump.more(0, 100000, 20, 4, 50, 20);
        Keys.press(pump, "B0E0.1E0ER");
        Due.is("a bolus", Keys.press(pump, "P"), 7);
        Due.same("it is logged", Keys.logged(pump), "0 5 0 20");
        Due.is("while one is being made", Keys.press(pump, "P"), -1);
        Due.same("that is logged", Keys.logged(pump), "0 6 0 0");
        Due.is("its strokes", pump.ticks(5), 20);
        pump.ticks(44);
        Due.is("in the lockout", Keys.press(pump, "P"), -1);
        pump.ticks(1);
        Due.is("behind the lockout", Keys.press(pump, "P"), 7);
        pump.ticks(20);
        Keys.press(pump, "SB0E0.1E0ER");
        Due.is("the lockout goes over programs", Keys.press(pump, "P"), -1);
        Keys.press(pump, "NB0E0.1E0ER");
        Due.is("not over channels", Keys.press(pump, "P"), 7);
        DosePump other = Keys.pump();
        other.more(0, 100000, 20, 4, 50, 20);
        int before = other.about(4);
        Due.is("not in RUNS", Keys.press(other, "P"), -1);
        Due.is("is not logged", other.about(4), before);
    }

    private static void bolusesInAnHour() {
        Due.sentence("fewer than the drug lets in were begun in the 3600 ticks up to now");
        DosePump pump = Keys.pump();
        pump.more(0, 100000, 1, 1, 0, 2);
        Keys.press(pump, "B0E0.1E0ER");
        pump.ticks(10);
        Keys.press(pump, "P");
        pump.ticks(10);
        Due.is("the second one", Keys.press(pump, "P"), 7);
        pump.ticks(10);
        Due.is("the third one", Keys.press(pump, "P"), -1);
        Due.is("begun in the hour", pump.channel(0, 12), 2);
        Keys.ticks(pump, 3579);
        Due.is("at 3599 ticks", Keys.press(pump, "P"), -1);
        pump.ticks(1);
        Due.is("begun in the hour, at 3600 ticks", pump.channel(0, 12), 1);
        Due.is("at 3600 ticks", Keys.press(pump, "P"), 7);
        Due.is("again", Keys.press(pump, "P"), -1);
        DosePump many = Keys.pump();
        many.more(0, 100000, 1, 1, 0, 20);
        Keys.press(many, "B0E0.1E0ER");
        for (int i = 0; i < 20; i++) {
            Due.is("one of twenty", Keys.press(many, "P"), 7);
            many.ticks(1);
        }
        Due.is("the twenty-first", Keys.press(many, "P"), -1);
        Due.is("twenty in the hour", many.channel(0, 12), 20);
        Keys.ticks(many, 3600 - 20);
        for (int hour = 0; hour < 3; hour++) {
            for (int i = 0; i < 30; i++) {
                Due.is("one for one that is an hour old", Keys.press(many, "P"), i < 20 ? 7 : -1);
                Due.is("again twenty", many.channel(0, 12), 20);
                many.ticks(1);
            }
            Keys.ticks(many, 3600 - 30);
        }
    }

    private static void silences() {
        Due.sentence("19 SILENCE");
        DosePump pump = Keys.running("36", "0");
        pump.door(0, true);
        Due.is("sound", pump.about(3), 1);
        Due.is("SILENCE", Keys.press(pump, "Q"), 8);
        Due.is("no sound", pump.about(3), 0);
        pump.ticks(119);
        Due.is("no sound at 119", pump.about(3), 0);
        pump.ticks(1);
        Due.is("sound at 120", pump.about(3), 1);
        Keys.press(pump, "Q");
        pump.ticks(100);
        Keys.press(pump, "Q");
        pump.ticks(119);
        Due.is("begun anew", pump.about(3), 0);
        Keys.press(pump, "QNB0E36E0.1ER");
        pump.ticks(9);
        Due.is("before another alarm", pump.about(3), 0);
        pump.ticks(1);
        Due.is("another alarm ends it", pump.about(3), 1);
        Keys.press(pump, "QSB0E36E0.1ER");
        pump.ticks(10);
        Due.is("one that is latched does not", pump.about(3), 0);
    }

    private static void relays() {
        Due.sentence("21 RELAY");
        DosePump pump = Keys.pump();
        Keys.press(pump, "B0E36E0E");
        Due.is("RELAY", Keys.press(pump, "Y"), 6);
        Due.is("it waits", pump.channel(0, 11), 1);
        Due.is("RELAY again", Keys.press(pump, "Y"), 6);
        Due.is("it does not", pump.channel(0, 11), 0);
        Keys.press(pump, "YB");
        Due.is("BEGIN ends it", pump.channel(0, 11), 0);
        Keys.press(pump, "SYR");
        Due.is("RUN ends it", pump.channel(0, 11), 0);
        Due.same("RELAY in HOLDS", Keys.answers(pump, "SY"), "8 8");
        Due.is("it waits", pump.channel(0, 11), 1);
    }
}
