/** chain */
public final class Promise15Test {
    public static void main(String[] args) {
        Due.sentence("THE CHAIN");
        DosePump pump = Keys.pump();
        Due.is("at first", pump.chain(), 1);
        Keys.press(pump, "BS");
        Due.is("one entry", pump.chain(), 247923919028352L);
        long chain = 247923919028352L;
        Keys.press(pump, "NB0E36E0.1ER");
        pump.ticks(10);
        Keys.press(pump, "SBS");
        chain = hang(chain, 0, 0, 1, 360);
        chain = hang(chain, 0, 3, 1, 360);
        chain = hang(chain, 10, 7, 1, 5);
        chain = hang(chain, 10, 4, 1, 10);
        chain = hang(chain, 10, 9, 1, 1);
        Due.is("six entries", pump.chain(), chain);
        for (int i = 0; i < 100; i++) {
            pump.ticks(1);
            Keys.press(pump, "BS");
            chain = hang(chain, 11 + i, 9, 1, 1);
        }
        Due.is("it goes beyond the latest 64", pump.chain(), chain);
        pump.ticks(30);
        Keys.press(pump, "P");
        pump.chain();
        Due.is("no entry, no change", pump.chain(), chain);
        Due.end();
    }

    private static long hang(long chain, long... parts) {
        long c = chain;
        for (long part : parts) {
            c = Long.rotateLeft(c * 31 + part, 7);
        }
        return c;
    }
}
