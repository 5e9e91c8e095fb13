/** The edges that 'Terms' names for alarms, ACK and SILENCE, sentence by sentence. */
public final class TermsAlarmsTest {
    public static void main(String[] args) {
        doorInEachPhase();
        latchedOnce();
        alarmsThatStop();
        alarmsThatHinderRun();
        alarmsOfAnotherChannel();
        silence();
        endOfASilence();
        noEndOfASilence();
        ackAir();
        ackOccluded();
        ackDoor();
        ackEmpty();
        ackHour();
        ackDone();
        ackLow();
        ackTakesWhatCanBe();
        ackTakesNone();
        Due.end();
    }

    /** A pump whose channel 0 has had a bolus, and has this alarm, 0 to 6 (with 3 comes 6). */
    private static DosePump with(int alarm) {
        DosePump pump = Keys.pump();
        pump.more(0, alarm == 4 ? 15 : 100000, 500, 1, 0, 20);
        Keys.press(pump, "B0E36E" + (alarm == 5 ? "1" : "0") + "E");
        if (alarm == 3 || alarm == 6) {
            pump.mains(false);
            Keys.ticks(pump, alarm == 3 ? 35980 : 32385);
            pump.mains(true);
            Keys.press(pump, alarm == 3 ? "A" : "");
            pump.mains(false);
        }
        pump.air(0, alarm == 0);
        pump.flow(0, alarm == 1 ? 0 : 200);
        Keys.press(pump, "RP");
        pump.ticks(alarm == 0 ? 2 : alarm == 1 ? 9 : alarm == 3 || alarm == 6 ? 4 : 7);
        Due.is("alarms before " + alarm, pump.channel(0, 1), alarm == 3 ? 64 : 0);
        Due.is("the bolus before", pump.channel(0, 6) > 0, true);
        if (alarm == 2) {
            pump.door(0, true);
        } else {
            pump.ticks(alarm == 5 ? 43 : 3);
        }
        Due.is("alarm " + alarm, pump.channel(0, 1) & 1 << alarm, 1 << alarm);
        return pump;
    }

    private static void doorInEachPhase() {
        Due.sentence("2 DOOR (its door is opened while it RUNS)");
        for (int phase = 0; phase <= 8; phase++) {
            DosePump pump = Keys.inPhase(phase);
            Due.is("opened in " + phase, pump.door(0, true), false);
            Due.is("alarms", pump.channel(0, 1), phase == 7 ? 4 : 0);
            Due.is("phase", pump.channel(0, 0), phase == 7 ? 8 : phase);
            pump.ticks(1);
            Due.is("alarms later", pump.channel(0, 1), phase == 7 ? 4 : 0);
        }
        DosePump pump = Keys.inPhase(7);
        pump.door(0, false);
        Due.is("closed while it RUNS", pump.channel(0, 1), 0);
        pump.door(1, true);
        Due.is("another's door", pump.channel(0, 1), 0);
        Due.is("of one that is IDLE", pump.channel(1, 1), 0);
    }

    private static void latchedOnce() {
        Due.sentence("Each is LATCHED when it comes; 7 an alarm was latched (which)");
        for (int alarm = 0; alarm <= 6; alarm++) {
            DosePump pump = with(alarm);
            int seen = 0;
            for (int i = 0; i < pump.about(4); i++) {
                seen += pump.log(i, 1) == 7 && pump.log(i, 3) == alarm ? 1 : 0;
            }
            Due.is("entries of alarm " + alarm, seen, 1);
            Due.is("sound", pump.about(3), 1);
        }
        DosePump tight = Keys.running("36", "0");
        tight.flow(0, 0);
        tight.ticks(600);
        int entries = tight.about(4);
        tight.ticks(600);
        Due.is("it stays latched", tight.channel(0, 1), 2);
        Due.is("and is not logged again", tight.about(4), entries);
    }

    private static void alarmsThatStop() {
        Due.sentence("0 to 4 stop: a channel that RUNS HOLDS then, and its bolus is gone");
        for (int alarm = 0; alarm <= 6; alarm++) {
            DosePump pump = with(alarm);
            Due.is("phase with alarm " + alarm, pump.channel(0, 0), alarm <= 4 ? 8 : 7);
            Due.is("the bolus is gone with " + alarm, pump.channel(0, 6) == 0, alarm <= 5);
        }
        DosePump ready = Keys.running("36", "0");
        ready.flow(0, 0);
        ready.ticks(17);
        Keys.press(ready, "SB0E36E0E");
        ready.ticks(2);
        Due.is("alarm 1 of one that is READY", ready.channel(0, 1), 2);
        Due.is("it stays READY", ready.channel(0, 0), 6);
    }

    private static void alarmsThatHinderRun() {
        Due.sentence("14 RUN: in 6 and 8, if no alarm 0 to 4 of the channel is latched");
        for (int alarm = 0; alarm <= 6; alarm++) {
            DosePump pump = with(alarm);
            pump.air(0, false);
            pump.door(0, false);
            Keys.press(pump, "S");
            Due.is("RUN from HOLDS with alarm " + alarm, Keys.press(pump, "R"), alarm <= 4 ? -1 : 7);
            Keys.press(pump, "SB0E36E0E");
            Due.is("RUN from READY with alarm " + alarm, Keys.press(pump, "R"), alarm <= 4 ? -1 : 7);
        }
    }

    private static void alarmsOfAnotherChannel() {
        Due.sentence("if no alarm 0 to 4 of the channel is latched (and one of another channel is)");
        for (int alarm = 0; alarm <= 6; alarm++) {
            DosePump pump = with(alarm);
            Keys.press(pump, "NB0E36E0E");
            Due.is("RUN of 1, alarm " + alarm + " of 0", Keys.press(pump, "R"), 7);
            Due.is("ACK of 1 takes none of 0", Keys.press(pump, "A"), -1);
            Due.is("alarm " + alarm, pump.channel(0, 1) & 1 << alarm, 1 << alarm);
        }
    }

    private static void silence() {
        Due.sentence("19 SILENCE: no sound till 120 ticks went by");
        for (int phase = 0; phase <= 8; phase++) {
            Due.is("SILENCE in " + phase, Keys.press(Keys.inPhase(phase), "Q"), phase);
        }
        DosePump pump = with(2);
        Due.is("sound", pump.about(3), 1);
        Keys.press(pump, "Q");
        Due.is("0 ticks", pump.about(3), 0);
        pump.ticks(118);
        Due.is("118 ticks", pump.about(3), 0);
        pump.ticks(1);
        Due.is("119 ticks", pump.about(3), 0);
        pump.ticks(1);
        Due.is("120 ticks", pump.about(3), 1);
        pump.ticks(1);
        Due.is("121 ticks", pump.about(3), 1);
        Keys.press(pump, "Q");
        pump.ticks(119);
        Keys.press(pump, "Q");
        pump.ticks(119);
        Due.is("119 ticks behind another", pump.about(3), 0);
        pump.ticks(1);
        Due.is("120 ticks behind another", pump.about(3), 1);
        Keys.press(pump, "NNQ");
        Due.is("from another channel", pump.about(3), 0);
    }

    private static void endOfASilence() {
        Due.sentence("Whatever comes that is not latched ends a silence");
        DosePump none = Keys.running("36", "0.1");
        Keys.press(none, "Q");
        none.ticks(9);
        Due.is("no alarm, no sound", none.about(3), 0);
        none.ticks(1);
        Due.is("the first alarm", none.about(3), 1);
        DosePump door = Keys.running("36", "0");
        Keys.press(door, "Q");
        door.door(0, true);
        Due.is("DOOR", door.about(3), 1);
        Keys.press(door, "QNB0E36E0ER");
        door.door(1, true);
        Due.is("the same alarm of another channel", door.about(3), 1);
        DosePump low = with(2);
        low.mains(false);
        Keys.ticks(low, 32400);
        Keys.press(low, "Q");
        Due.is("no sound", low.about(3), 0);
        low.ticks(1);
        Due.is("LOW", low.about(3), 1);
    }

    private static void noEndOfASilence() {
        Due.sentence("Whatever comes that is not latched ends a silence (and what is latched does not)");
        DosePump done = Keys.running("36", "0.1");
        done.ticks(10);
        Keys.press(done, "SB0E36E0.1ERQ");
        done.ticks(10);
        Due.is("DONE again", done.channel(0, 3), -1);
        Due.is("no sound", done.about(3), 0);
        Keys.press(done, "ASB0E36E0.1ERQ");
        done.ticks(10);
        Due.is("behind ACK it is not latched", done.about(3), 1);
        DosePump low = Keys.pump();
        low.mains(false);
        Keys.ticks(low, 32500);
        Keys.press(low, "Q");
        low.ticks(1);
        Due.is("LOW again", low.about(3), 0);
        Due.is("ACK of what cannot be taken", Keys.press(low, "A"), -1);
        Due.is("does not end it, either", low.about(3), 0);
    }

    private static void ackAir() {
        Due.sentence("0 without air (the bubble is 0 then, and strokes with air are forgotten)");
        DosePump pump = with(0);
        Due.is("with air", Keys.press(pump, "A"), -1);
        Due.is("bubble", pump.channel(0, 9), 5);
        Due.is("strokes with air", pump.channel(0, 10), 5);
        pump.air(0, false);
        Due.is("bubble", pump.channel(0, 9), 5);
        Due.is("without air", Keys.press(pump, "A"), 8);
        Due.is("bubble", pump.channel(0, 9), 0);
        Due.is("strokes with air", pump.channel(0, 10), 0);
        Due.same("logged", Keys.logged(pump), pump.about(0) + " 8 0 0");
        Keys.press(pump, "R");
        pump.air(0, true);
        Due.is("four", pump.ticks(4), 4);
        Due.is("no alarm", pump.channel(0, 1), 0);
        Due.is("the fifth", pump.ticks(4), 1);
        Due.is("alarm 0", pump.channel(0, 1), 1);
        DosePump other = Keys.running("36", "0.1");
        other.air(0, true);
        other.ticks(3);
        other.air(0, false);
        other.ticks(7);
        Due.is("ACK of alarm 5", Keys.press(other, "A"), 7);
        Due.is("forgets no strokes with air", other.channel(0, 10), 3);
    }

    private static void ackOccluded() {
        Due.sentence("1 and 5 always (1)");
        DosePump pump = with(1);
        pump.air(0, true);
        pump.door(0, true);
        pump.mains(false);
        Due.is("OCCLUDED", Keys.press(pump, "A"), 8);
        Due.is("alarms", pump.channel(0, 1), 0);
        Due.same("logged", Keys.logged(pump), pump.about(0) + " 8 0 1");
    }

    private static void ackDoor() {
        Due.sentence("2 with a door that is closed");
        DosePump pump = with(2);
        Due.is("open", Keys.press(pump, "A"), -1);
        pump.door(1, true);
        pump.door(1, false);
        Due.is("another's is closed", Keys.press(pump, "A"), -1);
        pump.door(0, false);
        Due.is("closed", Keys.press(pump, "A"), 8);
        Due.is("alarms", pump.channel(0, 1), 0);
    }

    private static void ackEmpty() {
        Due.sentence("3 with a charge of 200 or more");
        for (int charge = 198; charge <= 202; charge++) {
            DosePump pump = with(3);
            pump.mains(true);
            pump.ticks(51);
            pump.mains(false);
            pump.ticks(204 - charge);
            Due.is("charge", pump.about(1), charge);
            Keys.press(pump, "A");
            Due.is("EMPTY at " + charge, pump.channel(0, 1) & 8, charge < 200 ? 8 : 0);
        }
        DosePump mains = with(3);
        mains.mains(true);
        mains.ticks(49);
        Keys.press(mains, "A");
        Due.is("196 with mains", mains.channel(0, 1), 8);
        Due.is("LOW was taken by it", Keys.press(mains, "A"), -1);
        mains.ticks(1);
        Due.is("200 with mains", Keys.press(mains, "A"), 8);
        Due.is("alarms", mains.channel(0, 1), 0);
    }

    private static void ackHour() {
        Due.sentence("4 when the strokes of the latest 3600 ticks are below the limit");
        DosePump pump = with(4);
        int time = pump.about(0);
        Keys.ticks(pump, 3600 - time);
        Due.is("strokes", pump.channel(0, 7), 15);
        Due.is("at the limit", Keys.press(pump, "A"), -1);
        pump.ticks(1);
        Due.is("strokes", pump.channel(0, 7), 13);
        Due.is("below the limit", Keys.press(pump, "A"), 8);
        DosePump one = Keys.pump();
        one.more(0, 3, 0, 1, 0, 1);
        Keys.press(one, "B0E36E0ER");
        Due.is("three of four", one.ticks(4), 3);
        Keys.ticks(one, 3596);
        Due.is("3 of 3", Keys.press(one, "A"), -1);
        one.ticks(1);
        Due.is("2 of 3", Keys.press(one, "A"), 8);
        DosePump other = with(4);
        Keys.press(other, "B1E70E1E");
        Due.is("the program's drug, not the entry's", Keys.press(other, "A"), -1);
        Keys.press(other, "0E");
        Due.is("15 are below the new program's limit", Keys.press(other, "A"), 6);
    }

    private static void ackDone() {
        Due.sentence("1 and 5 always (5)");
        DosePump pump = with(5);
        pump.air(0, true);
        pump.mains(false);
        Due.is("DONE", Keys.press(pump, "A"), 7);
        Due.is("alarms", pump.channel(0, 1), 0);
        Due.same("logged", Keys.logged(pump), pump.about(0) + " 8 0 5");
    }

    private static void ackLow() {
        Due.sentence("6 with mains or a charge of 3600 or more");
        for (int charge = 3598; charge <= 3602; charge++) {
            DosePump pump = Keys.pump();
            pump.mains(false);
            Keys.ticks(pump, 32401);
            pump.mains(true);
            pump.ticks(1);
            Due.is("3603", pump.about(1), 3603);
            pump.mains(false);
            pump.ticks(3603 - charge);
            Due.is("LOW stays", pump.channel(0, 1), 64);
            Due.is("without mains at " + charge, Keys.press(pump, "A"), charge < 3600 ? -1 : 0);
            pump.mains(true);
            Due.is("with mains", Keys.press(pump, "A"), charge < 3600 ? 0 : -1);
            Due.is("alarms", pump.channel(0, 1), 0);
        }
        DosePump flat = Keys.pump();
        flat.mains(false);
        Keys.ticks(flat, 36000);
        Due.is("at 0 without mains", Keys.press(flat, "A"), -1);
        flat.mains(true);
        Due.is("at 0 with mains", Keys.press(flat, "A"), 0);
    }

    private static void ackTakesWhatCanBe() {
        Due.sentence("ACK takes those of the chosen channel that can be");
        DosePump pump = Keys.running("36", "0.1");
        pump.ticks(10);
        pump.door(0, true);
        Due.is("DOOR and DONE", pump.channel(0, 1), 36);
        int entries = pump.about(4);
        Due.is("DONE can be", Keys.press(pump, "A"), 8);
        Due.is("DOOR stays", pump.channel(0, 1), 4);
        Due.is("one entry", pump.about(4), entries + 1);
        Due.same("logged", Keys.logged(pump), "10 8 0 5");
        DosePump two = Keys.running("36", "0.1");
        two.ticks(10);
        two.door(0, true);
        two.door(0, false);
        entries = two.about(4);
        Due.is("both can be", Keys.press(two, "A"), 8);
        Due.is("none stays", two.channel(0, 1), 0);
        Due.is("two entries", two.about(4), entries + 2);
        Due.is("no sound", two.about(3), 0);
    }

    private static void ackTakesNone() {
        Due.sentence("REFUSED when it takes none");
        for (int phase = 0; phase <= 8; phase++) {
            DosePump pump = Keys.inPhase(phase);
            String before = Keys.state(pump);
            Due.is("no alarm in " + phase, Keys.press(pump, "A"), -1);
            Due.same("nothing changed", Keys.state(pump), before);
        }
        DosePump pump = with(2);
        String before = Keys.state(pump);
        Due.is("one that cannot be", Keys.press(pump, "A"), -1);
        Due.same("nothing changed", Keys.state(pump), before);
        pump.door(0, false);
        Keys.press(pump, "A");
        Due.is("one that was taken", Keys.press(pump, "A"), -1);
    }
}
