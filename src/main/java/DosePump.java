/**
 * An infusion pump of three channels. What it promises stands in DOC.md.
 *
 * Nothing in here is ever null: a channel without a program has the drug number NONE, so no call has to ask.
 */
public final class DosePump {
    public static final int REFUSED = -1;
    public static final int HARD = -2;

    private static final int CHANNELS = 3;
    private static final int DRUGS = 16;
    private static final int NONE = -1;
    private static final int ENDLESS = -1;
    private static final int HOUR = 3600;

    private static final int PHASE_IDLE = 0;
    private static final int PHASE_DRUG = 1;
    private static final int PHASE_WEIGHT = 2;
    private static final int PHASE_AMOUNT = 3;
    private static final int PHASE_VOLUME = 4;
    private static final int PHASE_SOFT = 5;
    private static final int PHASE_READY = 6;
    private static final int PHASE_RUNS = 7;
    private static final int PHASE_HOLDS = 8;

    private static final int KEY_POINT = 10;
    private static final int KEY_CLEAR = 11;
    private static final int KEY_ENTER = 12;
    private static final int KEY_BEGIN = 13;
    private static final int KEY_RUN = 14;
    private static final int KEY_STOP = 15;
    private static final int KEY_ACK = 16;
    private static final int KEY_OVER = 17;
    private static final int KEY_BOLUS = 18;
    private static final int KEY_SILENCE = 19;
    private static final int KEY_NEXT = 20;
    private static final int KEY_RELAY = 21;

    private static final int ALARM_AIR = 0;
    private static final int ALARM_OCCLUDED = 1;
    private static final int ALARM_DOOR = 2;
    private static final int ALARM_EMPTY = 3;
    private static final int ALARM_HOUR = 4;
    private static final int ALARM_DONE = 5;
    private static final int ALARM_LOW = 6;
    private static final int STOPPING_ALARMS = 31;

    private static final int LOG_PROGRAM = 0;
    private static final int LOG_HARD = 1;
    private static final int LOG_OVER = 2;
    private static final int LOG_RUNS = 3;
    private static final int LOG_HOLDS = 4;
    private static final int LOG_BOLUS = 5;
    private static final int LOG_BOLUS_REFUSED = 6;
    private static final int LOG_LATCHED = 7;
    private static final int LOG_TAKEN = 8;
    private static final int LOG_DROPPED = 9;

    private static final int FULL_CHARGE = 36000;
    private static final int LOW_CHARGE = 3600;
    private static final int ACK_CHARGE = 200;
    private static final int MAX_AMOUNT = 99999;
    private static final int MIN_WEIGHT = 5;
    private static final int MAX_WEIGHT = 3000;
    private static final int MAX_RATE = 9999;
    private static final int RATE_WHEN_DONE = 10;
    private static final int ENTRY_TICKS = 60;
    private static final int SILENT_TICKS = 120;

    private final Drug[] drugs = new Drug[DRUGS];
    private final Channel[] channels = new Channel[CHANNELS];
    private final Journal journal = new Journal();
    private int time;
    private int charge = FULL_CHARGE;
    private boolean onMains = true;
    private int chosen;
    private int silentUntil;

    public DosePump() {
        for (int d = 0; d < DRUGS; d++) {
            drugs[d] = new Drug(d);
        }
        for (int c = 0; c < CHANNELS; c++) {
            channels[c] = new Channel(c);
        }
    }

    public void drug(int d, int kind, int strength, int hardLow, int softLow, int softHigh, int hardHigh)
            throws IndexOutOfBoundsException, IllegalArgumentException, IllegalStateException {
        if (d < 0 || d >= DRUGS) {
            throw new IndexOutOfBoundsException("no such drug");
        }
        if (kind < 0 || kind > 1 || strength < 1 || strength > 10000) {
            throw new IllegalArgumentException("kind or strength");
        }
        if (hardLow < 1 || softLow < hardLow || softHigh < softLow || hardHigh < softHigh || hardHigh > MAX_AMOUNT) {
            throw new IllegalArgumentException("amounts");
        }
        refuseDrugInUse(d);
        Drug drug = drugs[d];
        drug.told = true;
        drug.kind = kind;
        drug.strength = strength;
        drug.hardLow = hardLow;
        drug.softLow = softLow;
        drug.softHigh = softHigh;
        drug.hardHigh = hardHigh;
        drug.tellMore(100000, 0, 1, 0, 1);
    }

    public void more(int d, int limit, int bolus, int pace, int lockout, int many)
            throws IndexOutOfBoundsException, IllegalArgumentException, IllegalStateException {
        Drug drug = toldDrug(d);
        if (limit < 1 || limit > 100000 || bolus < 0 || bolus > 5000 || pace < 1 || pace > 30) {
            throw new IllegalArgumentException("limit, bolus or pace");
        }
        if (lockout < 0 || lockout > 3600 || many < 1 || many > 20) {
            throw new IllegalArgumentException("lockout or many");
        }
        refuseDrugInUse(d);
        drug.tellMore(limit, bolus, pace, lockout, many);
    }

    public int key(int k) throws IllegalArgumentException {
        if (k < 0 || k > KEY_RELAY) {
            throw new IllegalArgumentException("no such key");
        }
        Channel ch = channels[chosen];
        int answer = press(ch, k);
        if (answer != REFUSED && keepsEntryAlive(k)) {
            ch.entry.idle = 0;
        }
        return answer;
    }

    public int ticks(int n) throws IllegalArgumentException {
        if (n < 0 || n > 600) {
            throw new IllegalArgumentException("ticks");
        }
        int made = 0;
        for (int i = 0; i < n; i++) {
            made += passTick();
        }
        return made;
    }

    public int flow(int c, int flow) throws IndexOutOfBoundsException, IllegalArgumentException {
        Line line = channelAt(c).line;
        if (flow < 0 || flow > 1000) {
            throw new IllegalArgumentException("flow");
        }
        int was = line.flow;
        line.flow = flow;
        return was;
    }

    public boolean air(int c, boolean is) throws IndexOutOfBoundsException {
        Line line = channelAt(c).line;
        boolean was = line.air;
        line.air = is;
        return was;
    }

    public boolean door(int c, boolean open) throws IndexOutOfBoundsException {
        Channel ch = channelAt(c);
        boolean was = ch.line.open;
        ch.line.open = open;
        if (open && ch.phase == PHASE_RUNS) {
            latch(ch, ALARM_DOOR);
        }
        return was;
    }

    public boolean mains(boolean is) {
        boolean was = onMains;
        onMains = is;
        return was;
    }

    public int about(int what) throws IndexOutOfBoundsException {
        switch (what) {
            case 0:
                return time;
            case 1:
                return charge;
            case 2:
                return chosen;
            case 3:
                return isSounding() ? 1 : 0;
            case 4:
                return journal.count;
            default:
                throw new IndexOutOfBoundsException("no such what");
        }
    }

    public int channel(int c, int what) throws IndexOutOfBoundsException {
        Channel ch = channelAt(c);
        switch (what) {
            case 0:
                return ch.phase;
            case 1:
                return ch.alarms;
            case 2:
                return ch.program.rate;
            case 3:
                return ch.program.left;
            case 4:
                return ch.program.made;
            case 5:
                return ch.program.debt;
            case 6:
                return ch.boluses.left;
            case 7:
                return ch.hour.sum;
            case 8:
                return ch.line.pressure;
            case 9:
                return ch.line.bubble;
            case 10:
                return ch.line.airStrokes.count;
            case 11:
                return ch.waits ? 1 : 0;
            case 12:
                return ch.boluses.begun.count;
            case 13:
                return ch.program.drug.number;
            case 14:
                return ch.strokes;
            default:
                throw new IndexOutOfBoundsException("no such what");
        }
    }

    public int entry(int what) throws IndexOutOfBoundsException {
        Channel ch = channels[chosen];
        switch (what) {
            case 0:
                return ch.entry.typed.inUnits(ch.places());
            case 1:
                return ch.entry.typed.length();
            case 2:
                return ch.hasEntry() ? ch.entry.idle : 0;
            default:
                throw new IndexOutOfBoundsException("no such what");
        }
    }

    public int rate(int d, int amount, int weight) throws IndexOutOfBoundsException, IllegalArgumentException {
        Drug drug = toldDrug(d);
        if (amount < 1 || amount > MAX_AMOUNT || weight < MIN_WEIGHT || weight > MAX_WEIGHT) {
            throw new IllegalArgumentException("amount or weight");
        }
        return drug.rateFor(amount, weight);
    }

    public int log(int i, int what) throws IndexOutOfBoundsException {
        if (!journal.keeps(i) || what < 0 || what >= Journal.COLUMNS) {
            throw new IndexOutOfBoundsException("no such entry or what");
        }
        return journal.read(i, what);
    }

    public long chain() {
        return journal.links;
    }

    private Channel channelAt(int c) {
        if (c < 0 || c >= CHANNELS) {
            throw new IndexOutOfBoundsException("no such channel");
        }
        return channels[c];
    }

    private Drug toldDrug(int d) {
        if (!isTold(d)) {
            throw new IndexOutOfBoundsException("no such drug");
        }
        return drugs[d];
    }

    private boolean isTold(int d) {
        return d >= 0 && d < DRUGS && drugs[d].told;
    }

    private void refuseDrugInUse(int d) {
        for (int c = 0; c < CHANNELS; c++) {
            if (channels[c].program.drug.number == d || channels[c].entry.drug.number == d) {
                throw new IllegalStateException("a channel has this drug");
            }
        }
    }

    private void note(int kind, Channel ch, int number) {
        journal.write(time, kind, ch.number, number);
    }

    // ---- the keypad; every handler answers the phase or REFUSED (or HARD)

    private int press(Channel ch, int k) {
        switch (k) {
            case KEY_POINT:
                return typePoint(ch);
            case KEY_CLEAR:
                return pressClear(ch);
            case KEY_ENTER:
                return pressEnter(ch);
            case KEY_BEGIN:
                return pressBegin(ch);
            case KEY_RUN:
                return pressRun(ch);
            case KEY_STOP:
                return pressStop(ch);
            case KEY_ACK:
                return pressAck(ch);
            case KEY_OVER:
                return pressOver(ch);
            case KEY_BOLUS:
                return pressBolus(ch);
            case KEY_SILENCE:
                silentUntil = time + SILENT_TICKS;
                return ch.phase;
            case KEY_NEXT:
                chosen = chosen + 1 < CHANNELS ? chosen + 1 : 0;
                return ch.phase;
            case KEY_RELAY:
                return pressRelay(ch);
            default:
                return typeFigure(ch, k);
        }
    }

    private static boolean keepsEntryAlive(int k) {
        return k != KEY_ACK && k != KEY_BOLUS && k != KEY_SILENCE && k != KEY_NEXT;
    }

    private int typeFigure(Channel ch, int figure) {
        return ch.takesNumber() && ch.entry.typed.addFigure(figure, ch.places()) ? ch.phase : REFUSED;
    }

    private int typePoint(Channel ch) {
        return ch.takesNumber() && ch.entry.typed.addPoint(ch.places()) ? ch.phase : REFUSED;
    }

    private int pressClear(Channel ch) {
        if (ch.phase == PHASE_SOFT) {
            ch.goTo(PHASE_AMOUNT);
        } else if (!ch.takesNumber()) {
            return REFUSED;
        } else if (ch.entry.typed.length() > 0) {
            ch.entry.typed.clear();
        } else {
            dropEntry(ch);
        }
        return ch.phase;
    }

    private int pressEnter(Channel ch) {
        if (!ch.takesNumber() || !ch.entry.typed.isComplete()) {
            return REFUSED;
        }
        int number = ch.entry.typed.inUnits(ch.places());
        switch (ch.phase) {
            case PHASE_DRUG:
                return enterDrug(ch, number);
            case PHASE_WEIGHT:
                return enterWeight(ch, number);
            case PHASE_AMOUNT:
                return enterAmount(ch, number);
            default:
                return enterVolume(ch, number);
        }
    }

    private int enterDrug(Channel ch, int d) {
        if (!isTold(d)) {
            return REFUSED;
        }
        ch.entry.drug = drugs[d];
        ch.goTo(drugs[d].kind == 1 ? PHASE_WEIGHT : PHASE_AMOUNT);
        return ch.phase;
    }

    private int enterWeight(Channel ch, int weight) {
        if (weight < MIN_WEIGHT || weight > MAX_WEIGHT) {
            return REFUSED;
        }
        ch.entry.weight = weight;
        ch.goTo(PHASE_AMOUNT);
        return ch.phase;
    }

    private int enterAmount(Channel ch, int amount) {
        Drug drug = ch.entry.drug;
        int newRate = drug.rateFor(amount, ch.entry.weight);
        if (amount < drug.hardLow || amount > drug.hardHigh || newRate < 1 || newRate > MAX_RATE) {
            ch.entry.typed.clear();
            note(LOG_HARD, ch, amount);
            return HARD;
        }
        ch.entry.amount = amount;
        ch.goTo(amount >= drug.softLow && amount <= drug.softHigh ? PHASE_VOLUME : PHASE_SOFT);
        return ch.phase;
    }

    private int enterVolume(Channel ch, int volume) {
        Entry entry = ch.entry;
        ch.program.renew(entry.drug, entry.drug.rateFor(entry.amount, entry.weight), volume);
        ch.boluses.left = 0;
        entry.forgetDrug();
        ch.goTo(PHASE_READY);
        note(LOG_PROGRAM, ch, ch.program.rate);
        return ch.phase;
    }

    private int pressBegin(Channel ch) {
        if (!ch.isAtRest() && ch.phase != PHASE_IDLE) {
            return REFUSED;
        }
        ch.entry.cameFrom = ch.phase;
        ch.waits = false;
        ch.goTo(PHASE_DRUG);
        return ch.phase;
    }

    private int pressRun(Channel ch) {
        if (!ch.canRun()) {
            return REFUSED;
        }
        startRunning(ch);
        return ch.phase;
    }

    private void startRunning(Channel ch) {
        ch.phase = PHASE_RUNS;
        ch.waits = false;
        note(LOG_RUNS, ch, ch.program.rate);
    }

    private int pressStop(Channel ch) {
        if (ch.phase == PHASE_RUNS) {
            ch.hold();
            note(LOG_HOLDS, ch, ch.program.made);
        } else if (ch.hasEntry()) {
            dropEntry(ch);
        } else {
            return REFUSED;
        }
        return ch.phase;
    }

    private int pressOver(Channel ch) {
        if (ch.phase != PHASE_SOFT) {
            return REFUSED;
        }
        ch.goTo(PHASE_VOLUME);
        note(LOG_OVER, ch, ch.entry.amount);
        return ch.phase;
    }

    private int pressBolus(Channel ch) {
        if (ch.phase != PHASE_RUNS) {
            return REFUSED;
        }
        Drug drug = ch.program.drug;
        if (!ch.boluses.mayBegin(drug, time)) {
            note(LOG_BOLUS_REFUSED, ch, 0);
            return REFUSED;
        }
        ch.boluses.begin(drug, time);
        note(LOG_BOLUS, ch, drug.bolus);
        return ch.phase;
    }

    private int pressRelay(Channel ch) {
        if (!ch.isAtRest()) {
            return REFUSED;
        }
        ch.waits = !ch.waits;
        return ch.phase;
    }

    private void dropEntry(Channel ch) {
        int dropped = ch.phase;
        ch.entry.forgetDrug();
        ch.goTo(ch.entry.cameFrom);
        note(LOG_DROPPED, ch, dropped);
    }

    // ---- alarms

    private void latch(Channel ch, int alarm) {
        if (!ch.hasAlarm(alarm)) {
            ch.alarms |= 1 << alarm;
            silentUntil = time;
            journal.write(time, LOG_LATCHED, ch.number, alarm);
        }
        if (alarm <= ALARM_HOUR && ch.phase == PHASE_RUNS) {
            ch.hold();
        }
    }

    private int pressAck(Channel ch) {
        boolean taken = false;
        for (int alarm = ALARM_AIR; alarm <= ALARM_LOW; alarm++) {
            if (ch.hasAlarm(alarm) && canBeTaken(ch, alarm)) {
                takeAlarm(ch, alarm);
                taken = true;
            }
        }
        return taken ? ch.phase : REFUSED;
    }

    private boolean canBeTaken(Channel ch, int alarm) {
        switch (alarm) {
            case ALARM_AIR:
                return !ch.line.air;
            case ALARM_DOOR:
                return !ch.line.open;
            case ALARM_EMPTY:
                return charge >= ACK_CHARGE;
            case ALARM_HOUR:
                return ch.hour.sum < ch.program.drug.limit;
            case ALARM_LOW:
                return onMains || charge >= LOW_CHARGE;
            default:
                return true;
        }
    }

    private void takeAlarm(Channel ch, int alarm) {
        ch.alarms &= ~(1 << alarm);
        if (alarm == ALARM_AIR) {
            ch.line.forgetAir();
        }
        note(LOG_TAKEN, ch, alarm);
    }

    private boolean isSounding() {
        int latched = 0;
        for (int c = 0; c < CHANNELS; c++) {
            latched |= channels[c].alarms;
        }
        return latched != 0 && time >= silentUntil;
    }

    // ---- a tick

    private int passTick() {
        time++;
        int made = 0;
        for (int c = 0; c < CHANNELS; c++) {
            made += passChannel(channels[c]);
        }
        passBattery(made);
        for (int c = 0; c < CHANNELS; c++) {
            passRelay(channels[c], channels[c > 0 ? c - 1 : CHANNELS - 1]);
        }
        return made;
    }

    private int passChannel(Channel ch) {
        ch.beginTick(time);
        int made = ch.phase == PHASE_RUNS ? deliver(ch) : 0;
        if (ch.line.drainAndTestBlocked()) {
            latch(ch, ALARM_OCCLUDED);
        }
        if (ch.hasEntry()) {
            passEntry(ch);
        }
        return made;
    }

    private int deliver(Channel ch) {
        int ofBolus = Math.min(ch.program.drug.pace, ch.boluses.left);
        int wanted = ch.program.strokesDue() + ofBolus;
        // Taken off before they are made: whatever keeps one of them from being made ends the bolus altogether.
        ch.boluses.left -= ofBolus;
        int made = 0;
        for (int i = 0; i < wanted && ch.phase == PHASE_RUNS && !ch.doneNow; i++) {
            if (ch.hour.sum >= ch.program.drug.limit) {
                latch(ch, ALARM_HOUR);
            } else {
                makeStroke(ch);
                made++;
            }
        }
        return made;
    }

    private void makeStroke(Channel ch) {
        ch.hour.add();
        ch.strokes++;
        ch.line.carryStroke(time);
        boolean last = ch.program.countStroke();
        if (ch.line.hasTooMuchAir()) {
            latch(ch, ALARM_AIR);
        }
        if (last) {
            ch.doneNow = true;
            ch.boluses.left = 0;
            ch.program.keepOpen();
            latch(ch, ALARM_DONE);
        }
    }

    private void passEntry(Channel ch) {
        ch.entry.idle++;
        if (ch.entry.idle >= ENTRY_TICKS) {
            dropEntry(ch);
        }
    }

    private void passBattery(int made) {
        charge = onMains ? Math.min(FULL_CHARGE, charge + 4) : Math.max(0, charge - 1 - made);
        if (!onMains && charge < LOW_CHARGE) {
            latch(channels[0], ALARM_LOW);
        }
        for (int c = 0; c < CHANNELS; c++) {
            if (charge == 0 && channels[c].phase == PHASE_RUNS) {
                latch(channels[c], ALARM_EMPTY);
            }
        }
    }

    private void passRelay(Channel ch, Channel before) {
        if (!ch.waits || !before.doneNow) {
            return;
        }
        ch.waits = false;
        if (ch.canRun()) {
            startRunning(ch);
        }
    }

    private static final class Drug {
        static final long MAX_INT = 2147483647L;

        final int number;
        boolean told;
        int kind;
        int strength = 1;
        int hardLow;
        int softLow;
        int softHigh;
        int hardHigh;
        int limit;
        int bolus;
        int pace;
        int lockout;
        int many;

        Drug(int number) {
            this.number = number;
        }

        void tellMore(int newLimit, int newBolus, int newPace, int newLockout, int newMany) {
            limit = newLimit;
            bolus = newBolus;
            pace = newPace;
            lockout = newLockout;
            many = newMany;
        }

        int rateFor(int amount, int weight) {
            if (kind == 0) {
                return amount;
            }
            long above = 3L * amount * weight;
            long below = 5L * Math.max(1, strength);
            return (int) Math.min(MAX_INT, (2 * above + below) / (2 * below));
        }
    }

    private static final class Channel {
        final int number;
        final Entry entry = new Entry();
        final Program program = new Program();
        final Boluses boluses = new Boluses();
        final Line line = new Line();
        final HourOfStrokes hour = new HourOfStrokes();
        int phase = PHASE_IDLE;
        int alarms;
        int strokes;
        boolean waits;
        boolean doneNow;

        Channel(int number) {
            this.number = number;
        }

        boolean hasEntry() {
            return phase >= PHASE_DRUG && phase <= PHASE_SOFT;
        }

        boolean takesNumber() {
            return phase >= PHASE_DRUG && phase <= PHASE_VOLUME;
        }

        boolean isAtRest() {
            return phase == PHASE_READY || phase == PHASE_HOLDS;
        }

        boolean hasAlarm(int alarm) {
            return (alarms >> alarm & 1) != 0;
        }

        boolean canRun() {
            return isAtRest() && (alarms & STOPPING_ALARMS) == 0 && !line.open;
        }

        /** How many figures the number may have behind its point. */
        int places() {
            if (phase == PHASE_DRUG) {
                return 0;
            }
            return phase == PHASE_AMOUNT && entry.drug.kind == 1 ? 2 : 1;
        }

        void goTo(int newPhase) {
            phase = newPhase;
            entry.typed.clear();
        }

        void hold() {
            phase = PHASE_HOLDS;
            boluses.left = 0;
        }

        void beginTick(int now) {
            hour.advance();
            line.airStrokes.forgetOld(now);
            boluses.begun.forgetOld(now);
            doneNow = false;
        }
    }

    private static final class Entry {
        final Typed typed = new Typed();
        final Drug noDrug = new Drug(NONE);
        Drug drug = noDrug;
        int cameFrom;
        int weight;
        int amount;
        int idle;

        void forgetDrug() {
            drug = noDrug;
        }
    }

    /** The number that is being typed. */
    private static final class Typed {
        int value;
        int figures;
        int behind;
        boolean hasPoint;

        void clear() {
            value = 0;
            figures = 0;
            behind = 0;
            hasPoint = false;
        }

        int length() {
            return hasPoint ? figures + 1 : figures;
        }

        boolean isComplete() {
            return figures > 0 && (!hasPoint || behind > 0);
        }

        boolean addFigure(int figure, int places) {
            boolean behindLoneZero = figures == 1 && value == 0;
            if (hasPoint ? behind >= places : figures >= 4 || behindLoneZero) {
                return false;
            }
            value = value * 10 + figure;
            figures++;
            if (hasPoint) {
                behind++;
            }
            return true;
        }

        boolean addPoint(int places) {
            if (hasPoint || figures == 0 || places == 0) {
                return false;
            }
            hasPoint = true;
            return true;
        }

        int inUnits(int places) {
            int units = value;
            for (int i = behind; i < places; i++) {
                units *= 10;
            }
            return units;
        }
    }

    private static final class Program {
        static final int DEBT_OF_STROKE = 360;
        static final int STROKES_OF_VOLUME = 10;

        Drug drug = new Drug(NONE);
        int rate;
        int left = ENDLESS;
        int made;
        int debt;

        void renew(Drug newDrug, int newRate, int volume) {
            drug = newDrug;
            rate = newRate;
            left = volume == 0 ? ENDLESS : volume * STROKES_OF_VOLUME;
            made = 0;
            debt = 0;
        }

        int strokesDue() {
            debt += rate;
            int due = debt / DEBT_OF_STROKE;
            debt %= DEBT_OF_STROKE;
            return due;
        }

        /** Whether it was the last one of a program with an end. */
        boolean countStroke() {
            made++;
            if (left == ENDLESS) {
                return false;
            }
            left--;
            return left == 0;
        }

        void keepOpen() {
            rate = Math.min(rate, RATE_WHEN_DONE);
            left = ENDLESS;
        }
    }

    private static final class Boluses {
        /** 20 is the most that a drug lets in in an hour. */
        final Recent begun = new Recent(HOUR, 20);
        /** So long ago that it locks nothing out, if there was none. */
        int latest = -HOUR;
        int left;

        boolean mayBegin(Drug drug, int now) {
            return drug.bolus > 0 && left == 0 && now - latest >= drug.lockout && begun.count < drug.many;
        }

        void begin(Drug drug, int now) {
            begun.add(now);
            latest = now;
            left = drug.bolus;
        }
    }

    private static final class Line {
        static final int TIGHT = 100;
        static final int TIGHT_TICKS = 3;
        static final int MAX_BUBBLE = 5;
        static final int MAX_AIR_STROKES = 60;

        /** With so many of them alarm 0 comes, and none is made before ACK has forgotten them. */
        final Recent airStrokes = new Recent(900, MAX_AIR_STROKES);
        int flow = 200;
        int pressure;
        int tightTicks;
        int bubble;
        boolean air;
        boolean open;

        void carryStroke(int now) {
            pressure += 6;
            if (air) {
                bubble++;
                airStrokes.add(now);
            } else {
                bubble = 0;
            }
        }

        boolean hasTooMuchAir() {
            return bubble >= MAX_BUBBLE || airStrokes.count >= MAX_AIR_STROKES;
        }

        void forgetAir() {
            bubble = 0;
            airStrokes.clear();
        }

        boolean drainAndTestBlocked() {
            pressure = Math.max(0, pressure - flow);
            tightTicks = pressure >= TIGHT ? tightTicks + 1 : 0;
            if (tightTicks < TIGHT_TICKS) {
                return false;
            }
            pressure = 0;
            tightTicks = 0;
            return true;
        }
    }

    /** The strokes of each of the latest 3600 ticks, and of all of them. */
    private static final class HourOfStrokes {
        final int[] counts = new int[HOUR];
        int at;
        int sum;

        void advance() {
            at = at + 1 < HOUR ? at + 1 : 0;
            sum -= counts[at];
            counts[at] = 0;
        }

        void add() {
            counts[at]++;
            sum++;
        }
    }

    /** The times of what happened in the latest ticks: of things that cannot happen there more often than it keeps. */
    private static final class Recent {
        final int span;
        final int[] times;
        int oldest;
        int count;

        Recent(int span, int most) {
            this.span = span;
            this.times = new int[Math.max(1, most)];
        }

        void forgetOld(int now) {
            for (int i = 0; i < times.length && count > 0 && now - times[oldest] >= span; i++) {
                oldest = oldest + 1 < times.length ? oldest + 1 : 0;
                count--;
            }
        }

        void add(int now) {
            if (count < times.length) {
                int at = oldest + count;
                times[at < times.length ? at : at - times.length] = now;
                count++;
            }
        }

        void clear() {
            count = 0;
        }
    }

    /** The log and its chain. */
    private static final class Journal {
        static final int KEPT = 64;
        static final int COLUMNS = 4;

        final int[] cells = new int[KEPT * COLUMNS];
        int count;
        long links = 1;

        boolean keeps(int i) {
            return i >= 0 && i < count && i >= count - KEPT;
        }

        int read(int i, int what) {
            return cells[(i & (KEPT - 1)) * COLUMNS + what];
        }

        void write(int time, int kind, int channel, int number) {
            int row = (count & (KEPT - 1)) * COLUMNS;
            cells[row] = time;
            cells[row + 1] = kind;
            cells[row + 2] = channel;
            cells[row + 3] = number;
            for (int i = 0; i < COLUMNS; i++) {
                long next = links * 31 + cells[row + i];
                links = next << 7 | next >>> 57;
            }
            count++;
        }
    }
}
