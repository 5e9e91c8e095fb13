/** The edges that 'Terms' names for a RELAY, sentence by sentence. */
public final class TermsRelayTest {
    public static void main(String[] args) {
        channelBefore();
        orNotAnyMore();
        phases();
        doneInThisTick();
        doneAgain();
        doneWithAir();
        ifKey14WouldDoSo();
        noMoreInAnyCase();
        behindEmpty();
        Due.end();
    }

    /** Chooses a channel from whatever is chosen. */
    private static void choose(DosePump pump, int c) {
        for (int i = 0; i < 3 && pump.about(2) != c; i++) {
            Keys.press(pump, "N");
        }
    }

    /** A program of ten ticks runs in channel done, and one of another channel waits. */
    private static DosePump pair(int done, int waiting) {
        DosePump pump = Keys.pump();
        choose(pump, waiting);
        Keys.press(pump, "B0E36E0EY");
        choose(pump, done);
        Keys.press(pump, "B0E36E0.1ER");
        return pump;
    }

    private static void channelBefore() {
        Due.sentence("is to RUN when the channel before it (2 before 0) is DONE");
        for (int done = 0; done < 3; done++) {
            for (int waiting = 0; waiting < 3; waiting++) {
                if (done == waiting) {
                    continue;
                }
                boolean follows = waiting == (done + 1) % 3;
                DosePump pump = pair(done, waiting);
                pump.ticks(9);
                Due.is("a tick before", pump.channel(waiting, 0), 6);
                Due.is("it waits", pump.channel(waiting, 11), 1);
                pump.ticks(1);
                Due.is(waiting + " behind " + done, pump.channel(waiting, 0), follows ? 7 : 6);
                Due.is("it waits", pump.channel(waiting, 11), follows ? 0 : 1);
                Due.is("strokes of this tick", pump.channel(waiting, 14), 0);
                Due.same("logged", Keys.logged(pump), follows ? "10 3 " + waiting + " 360" : "10 7 " + done + " 5");
                pump.ticks(1);
                Due.is("strokes of the next one", pump.channel(waiting, 14), follows ? 1 : 0);
            }
        }
    }

    private static void orNotAnyMore() {
        Due.sentence("or is not to any more");
        DosePump pump = pair(0, 1);
        choose(pump, 1);
        Due.same("RELAY again, and again", Keys.answers(pump, "YY"), "6 6");
        Due.is("it waits", pump.channel(1, 11), 1);
        Keys.press(pump, "Y");
        Due.is("it waits no more", pump.channel(1, 11), 0);
        pump.ticks(20);
        Due.is("READY", pump.channel(1, 0), 6);
    }

    private static void phases() {
        Due.sentence("21 RELAY: the chosen channel, in 6 or 8");
        for (int phase = 0; phase <= 8; phase++) {
            DosePump pump = Keys.inPhase(phase);
            boolean can = phase == 6 || phase == 8;
            Due.is("RELAY in " + phase, Keys.press(pump, "Y"), can ? phase : -1);
            Due.is("it waits", pump.channel(0, 11), can ? 1 : 0);
        }
        DosePump holds = pair(2, 0);
        choose(holds, 0);
        Keys.press(holds, "RSY");
        holds.ticks(10);
        Due.is("from HOLDS", holds.channel(0, 0), 7);
    }

    private static void doneInThisTick() {
        Due.sentence("if the channel before was DONE in this tick");
        DosePump pump = Keys.running("36", "0.1");
        pump.ticks(10);
        Due.is("DONE", pump.channel(0, 1), 32);
        Keys.press(pump, "NB0E36E0EY");
        pump.ticks(1);
        Due.is("a tick too late", pump.channel(1, 0), 6);
        Due.is("it waits on", pump.channel(1, 11), 1);
        pump.ticks(600);
        Due.is("it waits on", pump.channel(1, 11), 1);
    }

    private static void doneAgain() {
        Due.sentence("if the channel before was DONE in this tick (with alarm 5 latched before)");
        DosePump pump = pair(0, 1);
        choose(pump, 1);
        Keys.press(pump, "Y");
        pump.ticks(10);
        Keys.press(pump, "YNNSB0E36E0.1ER");
        int entries = pump.about(4);
        pump.ticks(10);
        Due.is("it RUNS", pump.channel(1, 0), 7);
        Due.is("alarm 5 is not logged again", pump.about(4), entries + 1);
    }

    private static void doneWithAir() {
        Due.sentence("alarm 5 (behind alarm 0, if that comes with it)");
        DosePump pump = pair(0, 1);
        pump.ticks(5);
        pump.air(0, true);
        int first = pump.about(4);
        pump.ticks(5);
        Due.is("both", pump.channel(0, 1), 33);
        Due.same("AIR", Keys.logged(pump, first), "10 7 0 0");
        Due.same("then DONE", Keys.logged(pump, first + 1), "10 7 0 5");
        Due.same("then the one that waits", Keys.logged(pump, first + 2), "10 3 1 360");
        Due.is("0 HOLDS", pump.channel(0, 0), 8);
        Due.is("1 RUNS", pump.channel(1, 0), 7);
        DosePump before = pair(0, 1);
        before.ticks(4);
        before.air(0, true);
        before.ticks(6);
        Due.is("AIR a stroke before", before.channel(0, 1), 1);
        Due.is("it waits on", before.channel(1, 11), 1);
    }

    private static void ifKey14WouldDoSo() {
        Due.sentence("they RUN, if key 14 would do so");
        DosePump door = pair(0, 1);
        door.door(1, true);
        door.ticks(10);
        Due.is("an open door", door.channel(1, 0), 6);
        DosePump closed = pair(0, 1);
        closed.door(1, true);
        closed.door(1, false);
        closed.ticks(10);
        Due.is("one that was closed again", closed.channel(1, 0), 7);
        DosePump latched = pair(0, 1);
        choose(latched, 1);
        Keys.press(latched, "R");
        latched.door(1, true);
        latched.door(1, false);
        Keys.press(latched, "Y");
        latched.ticks(10);
        Due.is("alarm 2", latched.channel(1, 0), 8);
        DosePump taken = pair(0, 1);
        choose(taken, 1);
        Keys.press(taken, "R");
        taken.door(1, true);
        taken.door(1, false);
        Keys.press(taken, "YA");
        taken.ticks(10);
        Due.is("alarm 2 that was taken", taken.channel(1, 0), 7);
        DosePump done = Keys.pump();
        Keys.press(done, "NB0E36E0.1ER");
        done.ticks(10);
        Keys.press(done, "SYNNB0E36E0.1ER");
        done.ticks(10);
        Due.is("alarm 5 hinders nothing", done.channel(1, 0), 7);
    }

    private static void noMoreInAnyCase() {
        Due.sentence("and wait no more in any case");
        DosePump pump = pair(0, 1);
        pump.door(1, true);
        pump.ticks(9);
        Due.is("it waits", pump.channel(1, 11), 1);
        pump.ticks(1);
        Due.is("it waits no more", pump.channel(1, 11), 0);
        pump.door(1, false);
        Keys.press(pump, "SB0E36E0.1ER");
        pump.ticks(10);
        Due.is("READY", pump.channel(1, 0), 6);
        DosePump runs = pair(0, 1);
        runs.ticks(10);
        Due.is("nor when it RUNS", runs.channel(1, 11), 0);
    }

    private static void behindEmpty() {
        Due.sentence("alarm 3 of each channel that RUNS when it is 0. Then those that wait to RELAY");
        DosePump pump = Keys.pump();
        Keys.press(pump, "B0E36E0.1ENB0E36E0EYNN");
        pump.mains(false);
        Keys.ticks(pump, 35980);
        Keys.press(pump, "R");
        pump.ticks(9);
        Due.is("charge", pump.about(1), 2);
        int first = pump.about(4);
        pump.ticks(1);
        Due.same("DONE", Keys.logged(pump, first), "35990 7 0 5");
        Due.same("EMPTY", Keys.logged(pump, first + 1), "35990 7 0 3");
        Due.same("then it RUNS", Keys.logged(pump, first + 2), "35990 3 1 360");
        Due.is("it RUNS", pump.channel(1, 0), 7);
        pump.ticks(1);
        Due.is("EMPTY a tick later", pump.channel(1, 1), 8);
    }
}
