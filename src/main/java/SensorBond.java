/** A network of sensors, buyers of their readings, and bonds that are cut for lies. */
public final class SensorBond {
    /** None. */
    public static final int NONE = -1;
    /** States of readings. */
    public static final int FRESH = 0, CHALLENGED = 1, STOOD = 2, LIE = 3, LOST = 4;

    private static final int SENSORS = 12;
    private static final int COLUMNS = 4;
    private static final int MOST_NEIGHBOURS = 4;
    private static final int BUYERS = 6;
    private static final int REPEATERS = 6;
    private static final int MOST_READINGS = 80;
    private static final int HUB = 0;

    private static final int FIRST_PURSE = 200;
    private static final int FIRST_BOND = 100;
    private static final int FIRST_PRICE = 1;
    private static final int HIGHEST_PRICE = 20;
    private static final int MUTED_BELOW = 20;
    private static final int HIGHEST_VALUE = 99;
    private static final int STAKE = 4;
    private static final int CUT_FACTOR = 4;
    private static final int LIE_WEIGHT = 3;
    private static final int MOST_DIFFERENCE = 5;

    private static final int PARTS = 4;
    private static final int PARTS_NEEDED = 3;
    private static final int LEAST_LOSS = 2;
    private static final int HIGHEST_LOSS = 9;

    private static final int LONGEST_WINDOW = 20;
    private static final int LONGEST_ADVANCE = 100;
    private static final int HIGHEST_TICK = 10000;
    /** The fifth tick is the one that ends it, and the first one counts. */
    private static final int WAIT = 4;

    private final Repeater[] repeaters = new Repeater[REPEATERS];
    private final Sensor[] sensors = new Sensor[SENSORS];
    private final Buyer[] buyers = new Buyer[BUYERS];
    private final Reading[] readings = new Reading[MOST_READINGS];
    private int readingCount = 0;
    private int house = 0;
    private int tick = 0;
    /** Nothing waits for the end of a tick later than this one. */
    private int busyUntil = NONE;

    public SensorBond() {
        Repeater hub = new Repeater(HUB, null);
        repeaters[HUB] = hub;
        for (int i = HUB + 1; i < REPEATERS; i++) {
            repeaters[i] = new Repeater(i, hub);
        }
        for (int i = 0; i < SENSORS; i++) {
            sensors[i] = new Sensor(i, repeaters[i % REPEATERS]);
        }
        for (int i = 0; i < BUYERS; i++) {
            buyers[i] = new Buyer();
        }
    }

    // ---- repeaters and sensors

    public int hang(int repeater, int on) throws IndexOutOfBoundsException {
        Repeater hanging = repeaterAt(repeater);
        Repeater carrier = repeaterAt(on);
        Repeater before = hanging.on;
        if (before == null || on >= repeater) {
            throw new IndexOutOfBoundsException("a repeater hangs on a lower one, and the hub on none");
        }
        hanging.on = carrier;
        return before.number;
    }

    public int attach(int sensor, int on) throws IndexOutOfBoundsException {
        Sensor hanging = sensorAt(sensor);
        Repeater carrier = repeaterAt(on);
        int before = hanging.repeater.number;
        hanging.repeater = carrier;
        return before;
    }

    public int setLoss(int repeater, int n) throws IndexOutOfBoundsException, IllegalArgumentException {
        Repeater lossy = repeaterAt(repeater);
        if (n != 0) {
            checkWithin(n, LEAST_LOSS, HIGHEST_LOSS);
        }
        int lost = lossy.countLost();
        lossy.lossEvery = n;
        lossy.come = 0;
        return lost;
    }

    public int setPrice(int sensor, int price) throws IndexOutOfBoundsException, IllegalArgumentException {
        Sensor seller = sensorAt(sensor);
        checkWithin(price, 1, HIGHEST_PRICE);
        int before = seller.price;
        seller.price = price;
        return before;
    }

    public int topUp(int sensor, int amount)
            throws IndexOutOfBoundsException, IllegalArgumentException, IllegalStateException {
        Sensor bonded = sensorAt(sensor);
        if (amount < 1) {
            throw new IllegalArgumentException("the amount is below 1");
        }
        if (bonded.purse < amount) {
            throw new IllegalStateException("the purse of the sensor is less");
        }
        bonded.purse -= amount;
        bonded.bond += amount;
        bonded.put += amount;
        return bonded.bond;
    }

    public int tell(int sensor, int value)
            throws IndexOutOfBoundsException, IllegalArgumentException, IllegalStateException {
        Sensor teller = sensorAt(sensor);
        checkWithin(value, 0, HIGHEST_VALUE);
        if (teller.bond < MUTED_BELOW || teller.lastTold == tick || readingCount >= MOST_READINGS) {
            throw new IllegalStateException("the sensor can tell nothing now");
        }
        teller.lastTold = tick;
        Reading reading = new Reading(teller, value, sendParts(teller));
        int number = readingCount;
        readings[number] = reading;
        readingCount++;
        if (reading.state == FRESH) {
            waitFor(reading);
            letWindowsUse(reading);
        }
        return number;
    }

    // ---- buyers

    public int open(int buyer, int sensor, int ticks)
            throws IndexOutOfBoundsException, IllegalArgumentException, IllegalStateException {
        Buyer opener = buyerAt(buyer);
        Sensor seller = sensorAt(sensor);
        checkWithin(ticks, 1, LONGEST_WINDOW);
        int sum = seller.price * ticks;
        if (opener.windows[sensor] != null || opener.purse < sum) {
            throw new IllegalStateException("the buyer has a window on the sensor, or its purse is too small");
        }
        int last = tick + ticks - 1;
        opener.purse -= sum;
        opener.windows[sensor] = new Window(seller.price, sum, last);
        busyUntil = Math.max(busyUntil, last);
        return last;
    }

    public int challenge(int buyer, int reading) throws IndexOutOfBoundsException, IllegalStateException {
        Buyer challenger = buyerAt(buyer);
        Reading doubted = readingAt(reading);
        if (doubted.state != FRESH || challenger.purse < STAKE) {
            throw new IllegalStateException("the reading is not FRESH, or the purse of the buyer is too small");
        }
        challenger.purse -= STAKE;
        doubted.state = CHALLENGED;
        doubted.challenge = new Challenge(challenger);
        waitFor(doubted);
        return countNeighbours(doubted.sensor.number);
    }

    public int sample(int sensor, int reading, int value)
            throws IndexOutOfBoundsException, IllegalArgumentException, IllegalStateException {
        Sensor giver = sensorAt(sensor);
        Reading doubted = readingAt(reading);
        checkWithin(value, 0, HIGHEST_VALUE);
        Challenge challenge = doubted.challenge;
        if (challenge == null || doubted.state != CHALLENGED
                || !areNeighbours(sensor, doubted.sensor.number) || challenge.hasSampleOf(giver)) {
            throw new IllegalStateException("the sensor can give no sample for the reading");
        }
        challenge.addSample(giver, value);
        if (challenge.count == countNeighbours(doubted.sensor.number)) {
            judge(doubted, challenge);
        }
        return doubted.state;
    }

    public int advance(int ticks) throws IllegalArgumentException, IllegalStateException {
        checkWithin(ticks, 1, LONGEST_ADVANCE);
        int target = tick + ticks;
        if (target > HIGHEST_TICK) {
            throw new IllegalStateException("the tick would be too high");
        }
        for (int ended = tick; ended < target && ended <= busyUntil; ended++) {
            endTick(ended);
        }
        tick = target;
        return tick;
    }

    // ---- what there is

    public int tick() {
        return tick;
    }

    public int readings() {
        return readingCount;
    }

    public int stateOf(int reading) throws IndexOutOfBoundsException {
        return readingAt(reading).state;
    }

    public int parts(int reading) throws IndexOutOfBoundsException {
        return readingAt(reading).parts;
    }

    public int users(int reading) throws IndexOutOfBoundsException {
        return readingAt(reading).users;
    }

    public int held(int reading) throws IndexOutOfBoundsException {
        return readingAt(reading).held;
    }

    public int middle(int reading) throws IndexOutOfBoundsException {
        Challenge challenge = readingAt(reading).challenge;
        return challenge == null ? NONE : challenge.findMiddle();
    }

    public int textAt(int reading, int place) throws IndexOutOfBoundsException {
        Reading shown = readingAt(reading);
        if (place < 0) {
            throw new IndexOutOfBoundsException("the place is below 0");
        }
        StringBuilder text = new StringBuilder();
        text.append((char) ('a' + shown.sensor.number));
        text.append(shown.value);
        text.append(signOf(shown.state));
        return place < text.length() ? text.charAt(place) : NONE;
    }

    public int bond(int sensor) throws IndexOutOfBoundsException {
        return sensorAt(sensor).bond;
    }

    public int bondByCuts(int sensor) throws IndexOutOfBoundsException {
        Sensor bonded = sensorAt(sensor);
        int sum = FIRST_BOND + bonded.put;
        for (int i = 0; i < readingCount; i++) {
            if (readings[i].sensor == bonded) {
                sum -= readings[i].cut;
            }
        }
        return sum;
    }

    public int earned(int sensor) throws IndexOutOfBoundsException {
        return sensorAt(sensor).purse;
    }

    public int mark(int sensor) throws IndexOutOfBoundsException {
        Sensor marked = sensorAt(sensor);
        int sum = 0;
        for (int i = 0; i < readingCount; i++) {
            if (readings[i].sensor == marked) {
                sum += weightOf(readings[i].state);
            }
        }
        return sum;
    }

    public int purse(int buyer) throws IndexOutOfBoundsException {
        return buyerAt(buyer).purse;
    }

    public int aside(int buyer, int sensor) throws IndexOutOfBoundsException {
        Buyer opener = buyerAt(buyer);
        Sensor seller = sensorAt(sensor);
        Window window = opener.windows[seller.number];
        return window == null ? 0 : window.left;
    }

    public int house() {
        return house;
    }

    // ---- what is refused

    private Repeater repeaterAt(int number) {
        if (number < 0 || number >= REPEATERS) {
            throw new IndexOutOfBoundsException("there is no such repeater");
        }
        return repeaters[number];
    }

    private Sensor sensorAt(int number) {
        if (number < 0 || number >= SENSORS) {
            throw new IndexOutOfBoundsException("there is no such sensor");
        }
        return sensors[number];
    }

    private Buyer buyerAt(int number) {
        if (number < 0 || number >= BUYERS) {
            throw new IndexOutOfBoundsException("there is no such buyer");
        }
        return buyers[number];
    }

    private Reading readingAt(int number) {
        if (number < 0 || number >= readingCount) {
            throw new IndexOutOfBoundsException("there is no such reading");
        }
        return readings[number];
    }

    private static void checkWithin(int number, int least, int most) {
        if (number < least || number > most) {
            throw new IllegalArgumentException("a number is out of range");
        }
    }

    // ---- how a reading goes out

    private static int sendParts(Sensor teller) {
        int behindHub = 0;
        for (int part = 0; part < PARTS; part++) {
            if (passesHub(teller.repeater)) {
                behindHub++;
            }
        }
        return behindHub;
    }

    /** The way ends, for every repeater but the hub hangs on one with a lower number. */
    private static boolean passesHub(Repeater first) {
        for (Repeater at = first; at != null; at = at.on) {
            if (at.losesNext()) {
                return false;
            }
        }
        return true;
    }

    private void letWindowsUse(Reading reading) {
        int seller = reading.sensor.number;
        for (int i = 0; i < BUYERS; i++) {
            Window window = buyers[i].windows[seller];
            if (window != null) {
                window.left -= window.price;
                reading.paid[i] = window.price;
                reading.held += window.price;
                reading.users++;
            }
        }
    }

    private void waitFor(Reading reading) {
        reading.due = tick + WAIT;
        busyUntil = Math.max(busyUntil, reading.due);
    }

    // ---- how a tick ends

    private void endTick(int ended) {
        for (int i = 0; i < readingCount; i++) {
            if (readings[i].isOpen() && readings[i].due <= ended) {
                settle(readings[i]);
            }
        }
        for (int i = 0; i < BUYERS; i++) {
            closeWindows(buyers[i], ended);
        }
    }

    private void settle(Reading reading) {
        Challenge challenge = reading.challenge;
        if (challenge == null) {
            letStand(reading);
        } else {
            judge(reading, challenge);
        }
    }

    private static void closeWindows(Buyer buyer, int ended) {
        for (int i = 0; i < SENSORS; i++) {
            Window window = buyer.windows[i];
            if (window != null && window.last <= ended) {
                buyer.purse += window.left;
                buyer.windows[i] = null;
            }
        }
    }

    // ---- how a reading is judged

    private void judge(Reading reading, Challenge challenge) {
        if (challenge.refutes(reading.value)) {
            reading.state = LIE;
            payBack(reading, challenge);
            shareCut(reading, challenge);
        } else {
            reading.sensor.purse += STAKE;
            letStand(reading);
        }
    }

    private static void letStand(Reading reading) {
        reading.state = STOOD;
        reading.sensor.purse += reading.held;
        reading.held = 0;
    }

    private void payBack(Reading reading, Challenge challenge) {
        for (int i = 0; i < BUYERS; i++) {
            buyers[i].purse += reading.paid[i];
        }
        reading.held = 0;
        challenge.challenger.purse += STAKE;
    }

    private void shareCut(Reading reading, Challenge challenge) {
        Sensor liar = reading.sensor;
        int cut = Math.min(liar.bond, CUT_FACTOR * liar.price * (reading.users + 1));
        liar.bond -= cut;
        reading.cut = cut;
        int forChallenger = cut / 4;
        challenge.challenger.purse += forChallenger;
        house += cut - forChallenger - payUsers(reading, cut / 2);
    }

    /** Answers what it paid in all, so that the house can have the rest. */
    private int payUsers(Reading reading, int half) {
        if (reading.users == 0) {
            return 0;
        }
        int share = half / reading.users;
        for (int i = 0; i < BUYERS; i++) {
            if (reading.paid[i] > 0) {
                buyers[i].purse += share;
            }
        }
        return share * reading.users;
    }

    // ---- small things

    private static boolean areNeighbours(int a, int b) {
        int rows = Math.abs(a / COLUMNS - b / COLUMNS);
        int columns = Math.abs(a % COLUMNS - b % COLUMNS);
        return rows + columns == 1;
    }

    private static int countNeighbours(int sensor) {
        int count = 0;
        for (int i = 0; i < SENSORS; i++) {
            if (areNeighbours(sensor, i)) {
                count++;
            }
        }
        return count;
    }

    private static int weightOf(int state) {
        if (state == STOOD) {
            return 1;
        }
        return state == LIE ? -LIE_WEIGHT : 0;
    }

    private static char signOf(int state) {
        switch (state) {
            case FRESH:
                return '.';
            case CHALLENGED:
                return '?';
            case STOOD:
                return '+';
            case LIE:
                return '-';
            default:
                return 'x';
        }
    }

    private static final class Repeater {
        private final int number;
        /** Null for the hub alone. */
        private Repeater on;
        private int lossEvery = 0;
        private int come = 0;

        private Repeater(int number, Repeater on) {
            this.number = number;
            this.on = on;
        }

        private boolean losesNext() {
            come++;
            return lossEvery > 0 && come % lossEvery == 0;
        }

        private int countLost() {
            return lossEvery > 0 ? come / lossEvery : 0;
        }
    }

    private static final class Sensor {
        private final int number;
        private Repeater repeater;
        private int price = FIRST_PRICE;
        private int bond = FIRST_BOND;
        private int purse = 0;
        /** All that topUp put to the bond: kept apart from it, for bondByCuts. */
        private int put = 0;
        private int lastTold = NONE;

        private Sensor(int number, Repeater repeater) {
            this.number = number;
            this.repeater = repeater;
        }
    }

    private static final class Buyer {
        private int purse = FIRST_PURSE;
        /** By the numbers of the sensors; null where there is none. */
        private final Window[] windows = new Window[SENSORS];

        private Buyer() {
        }
    }

    private static final class Window {
        /** As it was at the opening, for the sensor can change its own. */
        private final int price;
        private final int last;
        private int left;

        private Window(int price, int left, int last) {
            this.price = price;
            this.left = left;
            this.last = last;
        }
    }

    private static final class Reading {
        private final Sensor sensor;
        private final int value;
        private final int parts;
        private int state;
        private int due = NONE;
        /** By the numbers of the buyers; more than 0 for those who used it, for no price is 0. */
        private final int[] paid = new int[BUYERS];
        private int users = 0;
        private int held = 0;
        private int cut = 0;
        private Challenge challenge = null;

        private Reading(Sensor sensor, int value, int parts) {
            this.sensor = sensor;
            this.value = value;
            this.parts = parts;
            this.state = parts >= PARTS_NEEDED ? FRESH : LOST;
        }

        private boolean isOpen() {
            return state == FRESH || state == CHALLENGED;
        }
    }

    private static final class Challenge {
        private final Buyer challenger;
        /** Rising, so that the middle one can be read off. */
        private final int[] samples = new int[MOST_NEIGHBOURS];
        private int count = 0;
        /** A bit for each sensor that has given a sample. */
        private int givers = 0;

        private Challenge(Buyer challenger) {
            this.challenger = challenger;
        }

        private boolean hasSampleOf(Sensor giver) {
            return (givers >> giver.number & 1) != 0;
        }

        private void addSample(Sensor giver, int value) {
            if (count >= samples.length) {
                return;
            }
            int place = count;
            while (place > 0 && samples[place - 1] > value) {
                samples[place] = samples[place - 1];
                place--;
            }
            samples[place] = value;
            count++;
            givers |= 1 << giver.number;
        }

        private int findMiddle() {
            return count == 0 ? NONE : samples[(count - 1) / 2];
        }

        private boolean refutes(int value) {
            return count > 0 && Math.abs(value - findMiddle()) > MOST_DIFFERENCE;
        }
    }
}
