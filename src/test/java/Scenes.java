/** What several tests begin with. */
final class Scenes {
    /** The readings of {@link #busy}. */
    static final int STOOD_ONE = 0, LIE_ONE = 1, LOST_ONE = 2, CHALLENGED_ONE = 3, FRESH_ONE = 4, BUSY_READINGS = 5;

    /** How many parts the readings of {@link #withAllParts} have behind the hub. */
    static final int[] PARTS = {1, 1, 0, 2, 3, 4};

    private Scenes() {
    }

    /** Both neighbours of sensor 0 give the same sample for its reading. */
    static int judge(SensorBond x, int reading, int value) {
        x.sample(1, reading, value);
        return x.sample(4, reading, value);
    }

    /** Sensor 0 tells 0, the buyer challenges it, and both neighbours say 99. */
    static int lie(SensorBond x, int challenger) {
        int reading = x.tell(0, 0);
        x.challenge(challenger, reading);
        judge(x, reading, 99);
        return reading;
    }

    /** Sensor 0 has a purse of so much, from a window of buyer 5 at that price; its price is 1, and the tick 5. */
    static SensorBond withEarned(int sum) {
        SensorBond x = new SensorBond();
        x.setPrice(0, sum);
        x.open(5, 0, 1);
        x.tell(0, 50);
        x.advance(5);
        x.setPrice(0, 1);
        return x;
    }

    /** The bond of sensor 0 is 16 and its purse 20, at the tick 7: it is muted. */
    static SensorBond muted() {
        SensorBond x = withEarned(20);
        x.setPrice(0, 20);
        lie(x, 0);
        x.advance(1);
        x.setPrice(0, 1);
        lie(x, 0);
        x.advance(1);
        return x;
    }

    /** Eighty readings in the ticks 0 to 6: all sensors but 8 to 11 have told one in the last of them. */
    static SensorBond full() {
        SensorBond x = new SensorBond();
        for (int i = 0; i < 80; i++) {
            if (i > 0 && i % 12 == 0) {
                x.advance(1);
            }
            x.tell(i % 12, i);
        }
        return x;
    }

    /** A reading for each number of parts; the first two make odd how many parts have come to 3, 2 and 1. */
    static SensorBond withAllParts() {
        SensorBond x = new SensorBond();
        x.hang(2, 1);
        x.hang(3, 2);
        x.hang(4, 2);
        x.hang(5, 3);
        x.setLoss(5, 4);
        x.setLoss(4, 4);
        x.setLoss(3, 2);
        x.setLoss(2, 2);
        x.setLoss(1, 2);
        x.tell(5, 0);
        x.tell(4, 0);
        x.tell(3, 0);
        x.setLoss(0, 2);
        x.tell(0, 0);
        x.setLoss(0, 4);
        x.tell(6, 0);
        x.setLoss(1, 0);
        x.setLoss(0, 0);
        x.tell(1, 0);
        return x;
    }

    static SensorBond atTick(int tick) {
        SensorBond x = new SensorBond();
        for (int left = tick; left > 0; left -= 100) {
            x.advance(Math.min(left, 100));
        }
        return x;
    }

    /** At the tick 5: a reading of each state, windows, and ways, losses, prices, purses, bonds unlike the first. */
    static SensorBond busy() {
        SensorBond x = new SensorBond();
        x.hang(5, 4);
        x.hang(4, 2);
        x.attach(7, 3);
        x.setPrice(0, 3);
        x.setPrice(5, 2);
        x.setPrice(1, 4);
        x.open(5, 0, 3);
        x.open(4, 1, 8);
        x.tell(0, 50);
        x.tell(1, 0);
        x.challenge(1, LIE_ONE);
        x.sample(0, LIE_ONE, 99);
        x.sample(2, LIE_ONE, 99);
        x.sample(5, LIE_ONE, 99);
        x.advance(5);
        x.setLoss(3, 2);
        x.setLoss(4, 5);
        x.open(3, 5, 4);
        x.open(0, 0, 4);
        x.open(1, 11, 20);
        x.tell(9, 7);
        x.tell(5, 20);
        x.challenge(2, CHALLENGED_ONE);
        x.sample(1, CHALLENGED_ONE, 40);
        x.tell(6, 30);
        return x;
    }

    /** The purse of buyer 0 is the sum, 0 to 199; it has put the rest aside for windows on the sensors 11 and 10. */
    static SensorBond withPurse(int sum) {
        SensorBond x = new SensorBond();
        int spent = 200 - sum;
        x.setPrice(11, Math.max(1, spent / 20));
        x.open(0, 11, Math.min(20, spent));
        if (x.purse(0) > sum) {
            x.open(0, 10, x.purse(0) - sum);
        }
        return x;
    }
}
