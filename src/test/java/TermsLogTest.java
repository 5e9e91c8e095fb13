/** The edges that 'Terms' names for the log and its chain, sentence by sentence. */
public final class TermsLogTest {
    public static void main(String[] args) {
        latest64();
        numberedFrom0();
        amounts();
        chain();
        chainOfGreatNumbers();
        Due.end();
    }

    private static void latest64() {
        Due.sentence("THE LOG has the latest 64 ENTRIES");
        for (int count : new int[] {1, 63, 64, 65, 66, 127, 128, 129}) {
            DosePump pump = new DosePump();
            for (int i = 0; i < count; i++) {
                Keys.press(pump, i % 2 == 0 ? "BS" : "BC");
            }
            Due.is("entries in all", pump.about(4), count);
            int oldest = Math.max(0, count - 64);
            Due.same("the oldest of " + count, Keys.logged(pump, oldest), "0 9 0 1");
            Due.same("the latest of " + count, Keys.logged(pump, count - 1), "0 9 0 1");
            Due.index("before the oldest of " + count, () -> pump.log(oldest - 1, 0));
            Due.index("behind the latest of " + count, () -> pump.log(count, 0));
        }
    }

    private static void numberedFrom0() {
        Due.sentence("numbered from 0 on: time, a KIND, the channel, a number");
        DosePump pump = Keys.pump();
        for (int i = 0; i < 100; i++) {
            pump.ticks(1);
            Keys.press(pump, "BS");
        }
        for (int i : new int[] {36, 37, 63, 64, 65, 98, 99}) {
            Due.same("entry " + i, Keys.logged(pump, i), (i + 1) + " 9 0 1");
        }
        Keys.press(pump, "NB0E36E0E");
        Due.same("entry 100", Keys.logged(pump, 100), "100 0 1 360");
        Due.index("entry 36", () -> pump.log(36, 0));
        Due.same("entry 37", Keys.logged(pump, 37), "38 9 0 1");
    }

    private static void amounts() {
        Due.sentence("1 HARD (the amount), 2 OVER (the amount)");
        DosePump pump = new DosePump();
        pump.drug(0, 0, 1, 10, 20, 30, 40);
        pump.drug(1, 1, 50, 10, 20, 30, 40);
        String[] keys = {"B0E0E", "0.9E", "9999.9E", "SB1E0.5E9999.99E", "0.09E"};
        int[] due = {0, 9, 99999, 999999, 9};
        for (int i = 0; i < keys.length; i++) {
            Due.is(keys[i], Keys.press(pump, keys[i]), DosePump.HARD);
            Due.same("HARD", Keys.logged(pump), "0 1 0 " + due[i]);
        }
        Keys.press(pump, "SB0E1EO");
        Due.same("OVER at HARD LOW", Keys.logged(pump), "0 2 0 10");
        Keys.press(pump, "SB0E4EO");
        Due.same("OVER at HARD HIGH", Keys.logged(pump), "0 2 0 40");
        int entries = pump.about(4);
        Keys.press(pump, "SB0E4E");
        Due.is("SOFT is not logged, the drop is", pump.about(4), entries + 1);
    }

    private static long turned(long c) {
        String bits = Long.toBinaryString(c);
        String all = "0".repeat(64 - bits.length()) + bits;
        return Long.parseUnsignedLong(all.substring(7) + all.substring(0, 7), 2);
    }

    private static long hang(long chain, long... parts) {
        long c = chain;
        for (long part : parts) {
            c = turned(c * 31 + part);
        }
        return c;
    }

    private static void chain() {
        Due.sentence("THE CHAIN is 1 at first, and with each entry the chain times 31 and time, kind, channel, number "
            + "in this order: each step c becomes c * 31 + it, turned left by 7 bits");
        DosePump pump = Keys.pump();
        Due.is("at first", pump.chain(), 1);
        pump.key(13);
        Due.is("without an entry", pump.chain(), 1);
        pump.key(15);
        Due.is("one", pump.chain(), hang(1, 0, 9, 0, 1));
        pump.ticks(5);
        Due.is("ticks alone", pump.chain(), hang(1, 0, 9, 0, 1));
        Keys.press(pump, "NNBS");
        Due.is("two", pump.chain(), hang(1, 0, 9, 0, 1, 5, 9, 2, 1));
        Keys.press(pump, "R");
        Due.is("a refused key", pump.chain(), hang(1, 0, 9, 0, 1, 5, 9, 2, 1));
    }

    private static void chainOfGreatNumbers() {
        Due.sentence("turned left by 7 bits (beyond the greatest number, and beyond 64 entries)");
        DosePump pump = Keys.pump();
        long due = 1;
        boolean below = false;
        for (int i = 0; i < 130; i++) {
            Keys.press(pump, "BS");
            due = hang(due, 0, 9, 0, 1);
            Due.is("entry " + i, pump.chain(), due);
            below |= due < 0;
        }
        Due.is("it was below 0, too", below, true);
    }
}
