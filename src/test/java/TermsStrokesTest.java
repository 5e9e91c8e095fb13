/** The edges that 'Terms' names for the strokes of a tick, sentence by sentence. */
public final class TermsStrokesTest {
    public static void main(String[] args) {
        debt();
        limitReached();
        latest3600Ticks();
        greatestLimit();
        limitOfABolus();
        takesOfLeft();
        noneLeft();
        noMoreInThisTick();
        rate10();
        withoutEndFromNowOn();
        doneAndLimit();
        gone();
        airEndsTheTick();
        Due.end();
    }

    private static void debt() {
        Due.sentence("its DEBT grows by its rate; it WANTS DEBT / 360 strokes (DEBT keeps the rest)");
        String[] amounts = {"35.9", "36", "36.1", "71.9", "72", "72.1", "999.9"};
        int[] strokes = {0, 1, 1, 1, 2, 2, 27};
        int[] rests = {359, 0, 1, 359, 0, 1, 279};
        int[] then = {1, 1, 1, 2, 2, 2, 28};
        for (int i = 0; i < amounts.length; i++) {
            DosePump pump = Keys.running(amounts[i], "0");
            Due.is("strokes of " + amounts[i], pump.ticks(1), strokes[i]);
            Due.is("DEBT of " + amounts[i], pump.channel(0, 5), rests[i]);
            Due.is("then of " + amounts[i], pump.ticks(1), then[i]);
        }
        DosePump least = Keys.running("0.1", "0");
        Due.is("359 ticks", least.ticks(359), 0);
        Due.is("DEBT", least.channel(0, 5), 359);
        Keys.press(least, "S");
        least.ticks(10);
        Due.is("it grows in RUNS alone", least.channel(0, 5), 359);
        Keys.press(least, "R");
        Due.is("360 ticks", least.ticks(1), 1);
        Due.is("DEBT", least.channel(0, 5), 0);
    }

    private static DosePump limited(int limit, String amount, String volume) {
        DosePump pump = Keys.pump();
        pump.more(0, limit, 1, 1, 0, 20);
        Keys.press(pump, "B0E" + amount + "E" + volume + "ER");
        return pump;
    }

    private static void limitReached() {
        Due.sentence("A stroke for which the strokes of the latest 3600 ticks (this tick among them, this stroke not) "
            + "have reached the hour's limit of its drug is not made: alarm 4");
        for (int limit : new int[] {1, 2, 26, 27, 28}) {
            DosePump pump = limited(limit, "999.9", "0");
            Due.is("27 wanted, limit " + limit, pump.ticks(1), Math.min(27, limit));
            Due.is("alarm", pump.channel(0, 1), limit < 27 ? 16 : 0);
            Due.is("phase", pump.channel(0, 0), limit < 27 ? 8 : 7);
            Due.is("28 wanted then", pump.ticks(1), limit == 28 ? 1 : 0);
            Due.is("alarm then", pump.channel(0, 1), 16);
            Due.is("strokes", pump.channel(0, 7), Math.min(28, limit));
        }
        DosePump one = limited(5, "36", "0");
        Due.is("five", one.ticks(5), 5);
        Due.is("reached, but none is wanted", one.channel(0, 1), 0);
        Due.is("the sixth", one.ticks(1), 0);
        Due.is("alarm 4", one.channel(0, 1), 16);
        Due.same("logged", Keys.logged(one), "6 7 0 4");
    }

    private static void latest3600Ticks() {
        Due.sentence("the strokes of the latest 3600 ticks (this tick among them)");
        for (int apart = 3598; apart <= 3601; apart++) {
            DosePump pump = limited(1, "0.1", "0");
            Keys.press(pump, "P");
            Due.is("a stroke", pump.ticks(1), 1);
            Keys.press(pump, "S");
            Keys.ticks(pump, apart - 1);
            Keys.press(pump, "RP");
            Due.is("another, " + apart + " ticks later", pump.ticks(1), apart < 3600 ? 0 : 1);
            Due.is("alarm", pump.channel(0, 1), apart < 3600 ? 16 : 0);
            Due.is("strokes of the latest 3600 ticks", pump.channel(0, 7), 1);
        }
        DosePump ten = limited(10, "0.1", "0");
        Keys.ticks(ten, 7200);
        Due.is("one in 360 ticks reaches no limit of 10", ten.channel(0, 1), 0);
        Due.is("strokes in all", ten.channel(0, 14), 20);
        DosePump nine = limited(9, "0.1", "0");
        Keys.ticks(nine, 3599);
        Due.is("nine", nine.channel(0, 7), 9);
        Due.is("no alarm", nine.channel(0, 1), 0);
        nine.ticks(1);
        Due.is("the tenth is not made", nine.channel(0, 7), 9);
        Due.is("alarm 4", nine.channel(0, 1), 16);
    }

    private static void greatestLimit() {
        Due.sentence("an HOUR'S LIMIT in strokes; The hour's limit is 100000; its hour's limit 1 .. 100000");
        for (int told = 0; told <= 1; told++) {
            DosePump pump = Keys.pump();
            pump.drug(2, 0, 1, 1, 1, 99999, 99999);
            pump.more(2, 100000, 5000, 30, 0, 20);
            if (told == 1) {
                pump.more(0, 100000, 0, 1, 0, 1);
            }
            pump.flow(0, 1000);
            Keys.press(pump, "B2E999.9E0ERP");
            pump.ticks(200);
            Due.is("with a bolus", pump.channel(0, 7), 5000 + 9999 * 200 / 360);
            Keys.press(pump, "SB0E999.9E0ER");
            Keys.ticks(pump, 3200);
            Due.is("below it", pump.channel(0, 7), 5000 + 9999 * 200 / 360 + 9999 * 3200 / 360);
            Due.is("no alarm", pump.channel(0, 1), 0);
            pump.ticks(200);
            Due.is("at it", pump.channel(0, 7), 100000);
            Due.is("alarm 4", pump.channel(0, 1), 16);
        }
        DosePump less = Keys.pump();
        less.more(0, 99990, 0, 1, 0, 1);
        Keys.press(less, "B0E999.9E0ER");
        Keys.ticks(less, 10800);
        Due.is("99990 in an hour go on at 99990", less.channel(0, 1), 0);
        DosePump least = Keys.pump();
        least.more(0, 99989, 0, 1, 0, 1);
        Keys.press(least, "B0E999.9E0ER");
        Keys.ticks(least, 3600);
        Due.is("and not at 99989", least.channel(0, 1), 16);
        Due.is("strokes", least.channel(0, 7), 99989);
    }

    private static void limitOfABolus() {
        Due.sentence("0 to 4 stop: a channel that RUNS HOLDS then, and its bolus is gone (by the hour's limit)");
        for (int limit = 4; limit <= 6; limit++) {
            DosePump pump = Keys.pump();
            pump.more(0, limit, 9, 4, 0, 20);
            Keys.press(pump, "B0E36E0ERP");
            Due.is("1 and 4 wanted, limit " + limit, pump.ticks(1), Math.min(5, limit));
            Due.is("what is left of it", pump.channel(0, 6), limit == 4 ? 0 : 5);
            Due.is("phase", pump.channel(0, 0), limit == 4 ? 8 : 7);
            pump.ticks(1);
            Due.is("gone", pump.channel(0, 6), 0);
        }
    }

    private static void takesOfLeft() {
        Due.sentence("Each stroke that is made, of a bolus, too, takes one of what is LEFT");
        DosePump pump = Keys.pump();
        pump.more(0, 100000, 4, 3, 0, 20);
        Keys.press(pump, "B0E36E0.2ERP");
        Due.is("1 and 3", pump.ticks(1), 4);
        Due.is("left", pump.channel(0, 3), 16);
        Due.is("1 and 1", pump.ticks(1), 2);
        Due.is("left", pump.channel(0, 3), 14);
        Due.is("strokes of the program", pump.channel(0, 4), 6);
    }

    private static void noneLeft() {
        Due.sentence("With a stroke behind which none is LEFT (when the program has an end) it is DONE: alarm 5");
        DosePump pump = Keys.running("36", "0.1");
        pump.ticks(8);
        Due.is("two are left", pump.channel(0, 3), 2);
        pump.ticks(1);
        Due.is("one is left", pump.channel(0, 3), 1);
        Due.is("not DONE", pump.channel(0, 1), 0);
        Due.is("the last one", pump.ticks(1), 1);
        Due.is("DONE", pump.channel(0, 1), 32);
        Due.is("it RUNS on", pump.channel(0, 0), 7);
        Due.same("logged", Keys.logged(pump), "10 7 0 5");
        DosePump bolus = Keys.pump();
        bolus.more(0, 100000, 10, 9, 0, 20);
        Keys.press(bolus, "B0E0.1E0.1ERP");
        bolus.ticks(1);
        Due.is("one is left", bolus.channel(0, 3), 1);
        Due.is("by a bolus", bolus.ticks(1), 1);
        Due.is("DONE", bolus.channel(0, 1), 32);
        DosePump endless = Keys.running("36", "0");
        endless.ticks(600);
        Due.is("without an end", endless.channel(0, 1), 0);
    }

    private static void noMoreInThisTick() {
        Due.sentence("it makes no more in this tick, its bolus is gone");
        String[] amounts = {"324", "360", "396"};
        int[] first = {9, 10, 10};
        for (int i = 0; i < amounts.length; i++) {
            DosePump pump = Keys.running(amounts[i], "0.1");
            Due.is("a tick of " + amounts[i], pump.ticks(1), first[i]);
            Due.is("DONE", pump.channel(0, 1), first[i] == 10 ? 32 : 0);
            Due.is("the next one", pump.ticks(1), 10 - first[i]);
        }
        int[] boluses = {8, 9, 10};
        for (int bolus : boluses) {
            DosePump pump = Keys.pump();
            pump.more(0, 100000, bolus, 30, 0, 20);
            Keys.press(pump, "B0E36E0.1ERP");
            Due.is("1 and " + bolus, pump.ticks(1), Math.min(10, 1 + bolus));
            Due.is("the bolus", pump.channel(0, 6), 0);
            Due.is("DONE", pump.channel(0, 1), bolus == 8 ? 0 : 32);
        }
        DosePump paced = Keys.pump();
        paced.more(0, 100000, 100, 9, 0, 20);
        Keys.press(paced, "B0E36E0.1ERP");
        Due.is("1 and 9", paced.ticks(1), 10);
        Due.is("what is left of the bolus is gone", paced.channel(0, 6), 0);
        Due.is("none of it comes", paced.ticks(5), 0);
    }

    private static void rate10() {
        Due.sentence("its rate is 10 if it was above");
        String[] amounts = {"0.9", "1", "1.1", "999.9"};
        int[] after = {9, 10, 10, 10};
        for (int i = 0; i < amounts.length; i++) {
            DosePump pump = Keys.running(amounts[i], "0.1");
            pump.ticks(400);
            Due.is("DONE", pump.channel(0, 1), 32);
            Due.is("rate behind " + amounts[i], pump.channel(0, 2), after[i]);
        }
    }

    private static void withoutEndFromNowOn() {
        Due.sentence("and it is without end from now on");
        DosePump pump = Keys.running("36", "0.1");
        pump.ticks(10);
        Due.is("left", pump.channel(0, 3), -1);
        Due.is("DEBT begins at 0", pump.channel(0, 5), 0);
        Due.is("35 ticks", pump.ticks(35), 0);
        Due.is("36 ticks", pump.ticks(1), 1);
        Due.is("left", pump.channel(0, 3), -1);
        Due.is("strokes of the program", pump.channel(0, 4), 11);
        Keys.press(pump, "A");
        Keys.ticks(pump, 3600);
        Due.is("not DONE again", pump.channel(0, 1), 0);
        Due.is("a hundred more", pump.channel(0, 4), 111);
        Keys.press(pump, "SR");
        Due.same("RUN has the rate of 10", Keys.logged(pump), "3646 3 0 10");
    }

    private static void doneAndLimit() {
        Due.sentence("is not made: alarm 4; With a stroke behind which none is LEFT it is DONE");
        DosePump both = limited(10, "36", "0.1");
        both.ticks(10);
        Due.is("the last one is made at a limit of 10", both.channel(0, 1), 32);
        both.ticks(36);
        Due.is("the next one is not", both.channel(0, 1), 32 + 16);
        DosePump before = limited(9, "36", "0.1");
        before.ticks(10);
        Due.is("a limit of 9 comes before it", before.channel(0, 1), 16);
        Due.is("left", before.channel(0, 3), 1);
        Due.is("rate", before.channel(0, 2), 360);
    }

    private static void gone() {
        Due.sentence("What it wanted and did not make is gone");
        DosePump pump = limited(20, "999.9", "0");
        Due.is("20 of 27", pump.ticks(1), 20);
        Due.is("DEBT keeps the rest alone", pump.channel(0, 5), 279);
        Keys.ticks(pump, 3600);
        Keys.press(pump, "AR");
        Due.is("it RUNS", pump.channel(0, 0), 7);
        Due.is("20 of 28", pump.ticks(1), 20);
        Due.is("DEBT", pump.channel(0, 5), 198);
        DosePump done = Keys.running("999.9", "0.1");
        Due.is("10 of 27", done.ticks(1), 10);
        Due.is("DEBT", done.channel(0, 5), 279);
        Due.is("nothing of it comes", done.ticks(8), 0);
        Due.is("360 of DEBT", done.ticks(1), 1);
    }

    private static void airEndsTheTick() {
        Due.sentence("An alarm 0 to 4 ends the tick's strokes");
        String[] amounts = {"144", "180", "216"};
        int[] strokes = {4, 5, 5};
        for (int i = 0; i < amounts.length; i++) {
            DosePump pump = Keys.running(amounts[i], "0");
            pump.air(0, true);
            Due.is("a tick of " + amounts[i], pump.ticks(1), strokes[i]);
            Due.is("alarm", pump.channel(0, 1), strokes[i] == 5 ? 1 : 0);
        }
        DosePump done = Keys.running("396", "0.1");
        done.air(0, true);
        Due.is("AIR before DONE", done.ticks(1), 5);
        Due.is("alarm 0 alone", done.channel(0, 1), 1);
        Due.is("left", done.channel(0, 3), 5);
    }
}
