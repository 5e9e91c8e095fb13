/** ticks: delivery, the hour's limit, lines, alarms, relays. */
public final class Promise05Test {
    public static void main(String[] args) {
        wrongOnes();
        debts();
        done();
        doneInTheMiddle();
        boluses();
        hour();
        hourAcrossPrograms();
        doneWithAir();
        relays();
        relaysThatCannot();
        allChannels();
        Due.end();
    }

    private static void wrongOnes() {
        Due.sentence("So many ticks (0 .. 600): how many strokes were made by all channels");
        DosePump pump = Keys.running("36", "0");
        Due.argument("ticks(-1)", () -> pump.ticks(-1));
        Due.argument("ticks(601)", () -> pump.ticks(601));
        Due.argument("ticks(min)", () -> pump.ticks(Integer.MIN_VALUE));
        Due.is("no time went by", pump.about(0), 0);
        Due.is("ticks(0)", pump.ticks(0), 0);
        Due.is("no time went by", pump.about(0), 0);
        Due.is("ticks(1)", pump.ticks(1), 1);
        Due.is("time", pump.about(0), 1);
        Due.is("ticks(599)", pump.ticks(599), 599);
        Due.is("ticks(600)", pump.ticks(600), 600);
        Due.is("time", pump.about(0), 1200);
        Due.argument("ticks(max)", () -> pump.ticks(Integer.MAX_VALUE));
        Due.is("time", pump.about(0), 1200);
    }

    private static void debts() {
        Due.sentence("DEBT keeps the rest");
        DosePump pump = Keys.running("999.9", "0");
        Due.is("27 of 9999", pump.ticks(1), 27);
        Due.is("the rest", pump.channel(0, 5), 279);
        Due.is("28 of 10278", pump.ticks(1), 28);
        Due.is("the rest", pump.channel(0, 5), 198);
        Keys.press(pump, "SR");
        Due.is("STOP and RUN keep it", pump.channel(0, 5), 198);
        DosePump slow = Keys.running("0.1", "0");
        Due.is("none of 359", slow.ticks(359), 0);
        Due.is("one of 360", slow.ticks(1), 1);
        Due.is("no rest", slow.channel(0, 5), 0);
    }

    private static void done() {
        Due.sentence("it is DONE: alarm 5");
        DosePump pump = Keys.running("36", "0.1");
        pump.ticks(9);
        Due.is("one is left", pump.channel(0, 3), 1);
        Due.is("no alarm", pump.channel(0, 1), 0);
        pump.ticks(1);
        Due.is("it RUNS", pump.channel(0, 0), 7);
        Due.is("alarm 5", pump.channel(0, 1), 32);
        Due.is("rate 10", pump.channel(0, 2), 10);
        Due.is("without end", pump.channel(0, 3), -1);
        Due.same("it is logged", Keys.logged(pump), "10 7 0 5");
        Due.is("none in 35", pump.ticks(35), 0);
        Due.is("one in 36", pump.ticks(1), 1);
        Due.is("strokes of the program", pump.channel(0, 4), 11);
        DosePump slow = Keys.running("0.5", "0.1");
        Keys.ticks(slow, 720);
        Due.is("alarm 5", slow.channel(0, 1), 32);
        Due.is("a rate below 10 stays", slow.channel(0, 2), 5);
        DosePump endless = Keys.running("999.9", "0");
        endless.ticks(600);
        Due.is("without end it is not DONE", endless.channel(0, 1), 0);
    }

    private static void doneInTheMiddle() {
        Due.sentence("it makes no more in this tick");
        DosePump pump = Keys.pump();
        pump.more(0, 100000, 100, 30, 0, 1);
        Keys.press(pump, "B0E999.9E0.3ERP");
        Due.is("27, and 3 of the bolus", pump.ticks(1), 30);
        Due.is("the bolus is gone", pump.channel(0, 6), 0);
        Due.is("it is DONE", pump.channel(0, 1), 32);
        Due.is("debt keeps the rest", pump.channel(0, 5), 279);
        Due.is("what it wanted is gone", pump.ticks(1), 0);
        DosePump plain = Keys.running("999.9", "0.1");
        Due.is("10 of 27", plain.ticks(1), 10);
    }

    private static void boluses() {
        Due.sentence("as many of a bolus that is being made as its pace and what is left of it");
        DosePump pump = Keys.pump();
        pump.more(0, 100000, 25, 10, 0, 20);
        Keys.press(pump, "B0E36E10ERP");
        Due.is("1 and 10", pump.ticks(1), 11);
        Due.is("15 of it", pump.channel(0, 6), 15);
        Due.is("1 and 10", pump.ticks(1), 11);
        Due.is("1 and 5", pump.ticks(1), 6);
        Due.is("1", pump.ticks(1), 1);
        Due.is("a bolus takes of what is left", pump.channel(0, 3), 1000 - 29);
    }

    private static void hour() {
        Due.sentence("have reached the hour's limit of its drug");
        DosePump pump = Keys.pump();
        pump.more(0, 30, 20, 5, 0, 20);
        Keys.press(pump, "B0E36E0ER");
        pump.ticks(20);
        Keys.press(pump, "P");
        Due.is("1 and 5", pump.ticks(1), 6);
        Due.is("to the limit", pump.ticks(1), 4);
        Due.is("alarm 4", pump.channel(0, 1), 16);
        Due.is("it HOLDS", pump.channel(0, 0), 8);
        Due.is("the bolus is gone", pump.channel(0, 6), 0);
        Keys.ticks(pump, 3600 - 22);
        Due.is("strokes at 3600", pump.channel(0, 7), 30);
        Due.is("ACK at the limit", Keys.press(pump, "A"), -1);
        pump.ticks(1);
        Due.is("strokes at 3601", pump.channel(0, 7), 29);
        Due.same("ACK below it, RUN", Keys.answers(pump, "AR"), "8 7");
        Due.is("one behind another", pump.ticks(19), 19);
        DosePump exact = Keys.pump();
        exact.more(0, 5, 0, 1, 0, 1);
        Keys.press(exact, "B0E36E0ER");
        exact.ticks(5);
        Due.is("reached, but none wanted more", exact.channel(0, 1), 0);
        Due.is("not made", exact.ticks(1), 0);
        Due.is("alarm 4", exact.channel(0, 1), 16);
    }

    private static void hourAcrossPrograms() {
        Due.sentence("the strokes of the latest 3600 ticks (of another program, too)");
        DosePump pump = Keys.pump();
        pump.more(0, 30, 0, 1, 0, 1);
        Keys.press(pump, "B0E36E0ER");
        pump.ticks(20);
        Keys.press(pump, "SB0E36E0ER");
        Due.is("ten more", pump.ticks(20), 10);
        Due.is("HOLDS", pump.channel(0, 0), 8);
        Keys.press(pump, "B1E70E1E0E");
        Due.is("another drug's limit lets ACK take it", Keys.press(pump, "A"), 6);
    }

    private static void doneWithAir() {
        Due.sentence("alarm 5 (behind alarm 0, if that comes with it)");
        DosePump pump = Keys.running("36", "0.1");
        pump.ticks(5);
        pump.air(0, true);
        pump.ticks(5);
        Due.is("both alarms", pump.channel(0, 1), 33);
        Due.is("it HOLDS", pump.channel(0, 0), 8);
        Due.is("rate 10", pump.channel(0, 2), 10);
        int last = pump.about(4) - 1;
        Due.same("AIR first", Keys.logged(pump, last - 1), "10 7 0 0");
        Due.same("then DONE", Keys.logged(pump, last), "10 7 0 5");
    }

    private static void relays() {
        Due.sentence("those that wait to RELAY");
        DosePump pump = Keys.pump();
        Keys.press(pump, "B0E36E0EYNB0E36E0EYNB0E36E0.1ER");
        Due.is("ten strokes", pump.ticks(10), 10);
        Due.is("channel 0 behind 2", pump.channel(0, 0), 7);
        Due.is("it waits no more", pump.channel(0, 11), 0);
        Due.is("channel 1 still waits", pump.channel(1, 11), 1);
        Due.same("it is logged behind the alarm", Keys.logged(pump), "10 3 0 360");
        Due.is("it begins in the next tick", pump.ticks(1), 1);
        Keys.press(pump, "S");
        pump.ticks(50);
        Due.is("channel 1 waits for 0 alone", pump.channel(1, 0), 6);
        DosePump chain = Keys.pump();
        Keys.press(chain, "B0E36E0.1ERNB0E36E0.1EYNB0E36E0.1EY");
        chain.ticks(10);
        Due.is("1 behind 0", chain.channel(1, 0), 7);
        chain.ticks(10);
        Due.is("2 behind 1", chain.channel(2, 0), 7);
    }

    private static void relaysThatCannot() {
        Due.sentence("if key 14 would do so");
        DosePump pump = Keys.pump();
        Keys.press(pump, "B0E36E0.1ERNB0E36E0EY");
        pump.door(1, true);
        pump.ticks(10);
        Due.is("an open door", pump.channel(1, 0), 6);
        Due.is("it waits no more", pump.channel(1, 11), 0);
        DosePump alarm = Keys.pump();
        Keys.press(alarm, "NB0E36E0ER");
        alarm.door(1, true);
        alarm.door(1, false);
        Keys.press(alarm, "YNNB0E36E0.1ER");
        Due.is("it waits", alarm.channel(1, 11), 1);
        alarm.ticks(10);
        Due.is("an alarm", alarm.channel(1, 0), 8);
        Due.is("it waits no more", alarm.channel(1, 11), 0);
        DosePump done = Keys.pump();
        Keys.press(done, "B0E36E0.1ER");
        done.ticks(10);
        Keys.press(done, "NB0E36E0EY");
        done.ticks(10);
        Due.is("DONE before does not count", done.channel(1, 0), 6);
        Due.is("it waits on", done.channel(1, 11), 1);
    }

    private static void allChannels() {
        Due.sentence("how many strokes were made by all channels");
        DosePump pump = Keys.pump();
        Keys.press(pump, "B0E36E0ERNB0E72E0ERNB0E108E0ER");
        Due.is("all of them", pump.ticks(10), 60);
        Due.is("of 0", pump.channel(0, 14), 10);
        Due.is("of 1", pump.channel(1, 14), 20);
        Due.is("of 2", pump.channel(2, 14), 30);
    }
}
