/** The edges that 'Terms' names for a NUMBER, sentence by sentence. */
public final class TermsNumbersTest {
    /** Ways to each phase that takes a number, and how many figures it lets in behind a point. */
    private static final String[] WAYS = {"B", "B1E", "B0E", "B1E70E", "B0E1E", "B1E70E1E"};
    private static final int[] PHASES = {1, 2, 3, 3, 4, 4};
    private static final int[] PLACES = {0, 1, 1, 2, 1, 1};

    public static void main(String[] args) {
        phasesOfFigures();
        fourFigures();
        pointBehindFigure();
        onePoint();
        figuresBehindPoint();
        firstZero();
        refusedLeavesTheNumber();
        units();
        Due.end();
    }

    private static DosePump at(int way) {
        DosePump pump = Keys.pump();
        Keys.press(pump, WAYS[way]);
        Due.is("phase behind " + WAYS[way], pump.channel(0, 0), PHASES[way]);
        return pump;
    }

    /** What the keys answer one by one: '+' the phase, '-' REFUSED. */
    private static void typed(int way, String keys, String due) {
        DosePump pump = at(way);
        StringBuilder got = new StringBuilder();
        for (char name : keys.toCharArray()) {
            int answer = pump.key(Keys.number(name));
            got.append(answer == PHASES[way] ? '+' : answer == DosePump.REFUSED ? '-' : '?');
        }
        Due.same(WAYS[way] + " and " + keys, got.toString(), due);
    }

    private static void phasesOfFigures() {
        Due.sentence("0 .. 9 FIGURES and 10 POINT, in phases 1 to 4, make a NUMBER");
        for (int phase = 0; phase <= 8; phase++) {
            boolean takes = phase >= 1 && phase <= 4;
            for (int figure = 0; figure <= 9; figure++) {
                DosePump pump = Keys.inPhase(phase);
                Due.is("figure " + figure + " in phase " + phase, pump.key(figure), takes ? phase : -1);
                Due.is("its length", pump.entry(1), takes ? 1 : 0);
            }
            DosePump pump = Keys.inPhase(phase);
            pump.key(1);
            Due.is("point in phase " + phase, pump.key(10), takes && phase > 1 ? phase : -1);
        }
    }

    private static void fourFigures() {
        Due.sentence("at most 4 figures before the point");
        for (int way = 0; way < WAYS.length; way++) {
            typed(way, "12345", "++++-");
            typed(way, "99990", "++++-");
            typed(way, "100000", "++++--");
            typed(way, "123.4", PLACES[way] == 0 ? "+++-+" : "+++++");
            typed(way, "1234.5", PLACES[way] == 0 ? "++++--" : "++++++");
            typed(way, "12345.6", PLACES[way] == 0 ? "++++---" : "++++-++");
        }
    }

    private static void pointBehindFigure() {
        Due.sentence("a point only behind a figure");
        for (int way = 0; way < WAYS.length; way++) {
            String behind = PLACES[way] == 0 ? "-" : "+";
            typed(way, ".", "-");
            typed(way, "1.", "+" + behind);
            typed(way, "0.", "+" + behind);
            typed(way, "1C.", "++-");
        }
    }

    private static void onePoint() {
        Due.sentence("and one at most");
        for (int way = 1; way < WAYS.length; way++) {
            typed(way, "1..", "++-");
            typed(way, "1.2.", "+++-");
            typed(way, "1.C1.", "+++++");
        }
        typed(3, "1.23.", "++++-");
    }

    private static void figuresBehindPoint() {
        Due.sentence("behind it as many figures as are let in: none (and no point) in DRUG, one in WEIGHT and VOLUME, "
            + "in AMOUNT one for kind 0 and two for kind 1");
        typed(0, "1.2", "+-+");
        typed(1, "1.23", "+++-");
        typed(2, "1.23", "+++-");
        typed(3, "1.23", "++++");
        typed(3, "1.234", "++++-");
        typed(4, "1.23", "+++-");
        typed(5, "1.23", "+++-");
        typed(1, "0.00", "+++-");
        typed(3, "0.000", "++++-");
        typed(3, "9999.999", "+++++++-");
    }

    private static void firstZero() {
        Due.sentence("no figure directly behind a 0 that is the first one");
        for (int way = 0; way < WAYS.length; way++) {
            for (int figure = 0; figure <= 9; figure++) {
                typed(way, "0" + figure, "+-");
                typed(way, "10" + figure, "+++");
                typed(way, "0C" + figure, "+++");
            }
            if (PLACES[way] > 0) {
                typed(way, "00.0", "+-++");
                typed(way, "0.5", "+++");
            }
        }
        typed(3, "0.05", "++++");
    }

    private static void refusedLeavesTheNumber() {
        Due.sentence("What would break this is REFUSED");
        String[] kept = {"1234", "0", "1.2", "1.23", "1."};
        String[] broken = {"5", "7", "3", "4", "."};
        for (int i = 0; i < kept.length; i++) {
            for (int way = 1; way < WAYS.length; way++) {
                if (kept[i].equals("1.23") && PLACES[way] < 2 || kept[i].equals("1.2") && PLACES[way] > 1) {
                    continue;
                }
                DosePump pump = at(way);
                Keys.press(pump, kept[i]);
                pump.ticks(3);
                String before = Keys.state(pump);
                Due.is(WAYS[way] + kept[i] + broken[i], Keys.press(pump, broken[i]), -1);
                Due.same("nothing changed", Keys.state(pump), before);
            }
        }
    }

    private static void units() {
        Due.sentence("The number counts in units of its last possible figure (in WEIGHT 7 and 7.0 are 70)");
        String[] texts = {"0", "7", "7.", "7.0", "7.1", "0.1", "9999", "9999.9"};
        int[] inTenths = {0, 70, 70, 70, 71, 1, 99990, 99999};
        for (int way = 0; way < WAYS.length; way++) {
            for (int i = 0; i < texts.length; i++) {
                if (PLACES[way] == 0 && texts[i].indexOf('.') >= 0) {
                    continue;
                }
                DosePump pump = at(way);
                Keys.press(pump, texts[i]);
                int due = PLACES[way] == 0 ? inTenths[i] / 10 : PLACES[way] == 1 ? inTenths[i] : inTenths[i] * 10;
                Due.is(WAYS[way] + " number " + texts[i], pump.entry(0), due);
                Due.is(WAYS[way] + " length of " + texts[i], pump.entry(1), texts[i].length());
            }
        }
        DosePump pump = at(3);
        Keys.press(pump, "0.01");
        Due.is("0.01 of kind 1", pump.entry(0), 1);
        Keys.press(pump, "C9999.99");
        Due.is("9999.99 of kind 1", pump.entry(0), 999999);
        Due.is("its length", pump.entry(1), 7);
    }
}
