import java.util.Map;
import java.util.TreeMap;
import java.util.function.IntSupplier;

/** Long runs of calls, good and bad ones, against {@link PlainModel}; the runs are the same each time. */
public final class ModelTest {
    private static final int RUNS = 6000;
    /** The document promises no answer behind these. */
    private static final int PROMISED = 512;
    /** Behind the promised ones, for the machine may not throw there either. */
    private static final int CALLS = 600;
    /** What {@link #lookAtAll} takes if there are 80 readings. */
    private static final int CALLS_FOR_ALL = 290;
    private static final int ALL_MONEY = 6 * 200 + 12 * 100;

    private static final Map<String, Integer> seen = new TreeMap<>();
    private static long seed;

    private final SensorBond x = new SensorBond();
    private final PlainModel model = new PlainModel();
    private final int run;
    /** With few sensors one that lies is soon muted. */
    private final int sensors;
    private final int patience;
    private int calls = 0;

    private ModelTest(int run) {
        this.run = run;
        this.sensors = run % 3 == 0 ? 3 : 12;
        this.patience = 4 + run % 30;
    }

    public static void main(String[] args) {
        for (int run = 0; run < RUNS; run++) {
            seed = run;
            ModelTest test = new ModelTest(run);
            if (run % 2 == 0) {
                test.play(CALLS);
            } else {
                test.play(PROMISED - CALLS_FOR_ALL);
                test.lookAtAll();
            }
            test.countSigns();
        }
        System.out.println("seen: " + seen);
        for (String must : new String[] {"open", "challenge", "sample", "tell", "topUp", "setLoss", "hang", "attach",
            "setPrice", "advance"}) {
            Checks.holds(must + " is answered often", seen.getOrDefault(must + " answered", 0) > 1000);
            Checks.holds(must + " is refused often", seen.getOrDefault(must + " refused", 0) > 100);
        }
        for (char sign : ".?+-x".toCharArray()) {
            Checks.holds("there are many " + sign, seen.getOrDefault("sign " + sign, 0) > 100);
        }
        Checks.close("ModelTest");
    }

    private static int pick(int bound) {
        seed = seed * 6364136223846793005L + 1442695040888963407L;
        return (int) ((seed >>> 33) % bound);
    }

    /** Mostly a number from 0 to one less than the bound, seldom one outside. */
    private static int about(int bound) {
        switch (pick(60)) {
            case 0:
                return -1;
            case 1:
                return bound;
            case 2:
                return pick(2) == 0 ? Integer.MIN_VALUE : Integer.MAX_VALUE;
            default:
                return pick(bound);
        }
    }

    /** Mostly one of the last readings, for those are not settled yet. */
    private int aboutReading() {
        int count = model.readings();
        return count == 0 ? about(1) : pick(3) == 0 ? about(count) : count - 1 - pick(Math.min(count, 4));
    }

    private void play(int most) {
        while (calls < most) {
            switch (pick(3)) {
                case 0:
                    look();
                    break;
                default:
                    step();
                    break;
            }
        }
    }

    /** One call on each side: the same answer or, behind the promised ones, one that a call of the face can give. */
    private void same(String name, IntSupplier call, IntSupplier due) {
        String got = Checks.answerOf(call);
        if (calls < PROMISED) {
            Checks.due("run " + run + ", call " + calls + ": " + name, Checks.answerOf(due), got);
        } else {
            Checks.holds("run " + run + ", call " + calls + ": " + name + " answered " + got, isAllowed(got));
        }
        calls++;
        seen.merge(name + (got.startsWith("java") ? " refused" : " answered"), 1, Integer::sum);
    }

    private static boolean isAllowed(String answer) {
        return !answer.startsWith("java") || answer.equals("java.lang.IndexOutOfBoundsException")
            || answer.equals("java.lang.IllegalArgumentException") || answer.equals("java.lang.IllegalStateException");
    }

    // ---- calls that change something

    private void step() {
        int kind = pick(100);
        if (kind < 20) {
            set(kind);
        } else if (kind < 68) {
            trade(kind);
        } else if (kind < 100 - patience / 2) {
            sample();
        } else {
            int ticks = pick(20) == 0 ? about(101) : pick(30) == 0 ? about(2) : 1 + pick(3);
            same("advance", () -> x.advance(ticks), () -> model.advance(ticks));
        }
    }

    private int aboutSensor() {
        return about(sensors == 3 && pick(2) == 0 ? 3 : 12);
    }

    private void set(int kind) {
        int sensor = aboutSensor();
        int six = about(6);
        int other = about(6);
        if (kind < 4) {
            same("hang", () -> x.hang(six, other), () -> model.hang(six, other));
        } else if (kind < 7) {
            same("attach", () -> x.attach(sensor, six), () -> model.attach(sensor, six));
        } else if (kind < 11) {
            int n = pick(3) == 0 ? 0 : about(10);
            same("setLoss", () -> x.setLoss(six, n), () -> model.setLoss(six, n));
        } else if (kind < 15) {
            int price = about(21);
            same("setPrice", () -> x.setPrice(sensor, price), () -> model.setPrice(sensor, price));
        } else {
            int amount = about(12);
            same("topUp", () -> x.topUp(sensor, amount), () -> model.topUp(sensor, amount));
        }
    }

    private void trade(int kind) {
        int sensor = aboutSensor();
        int buyer = about(6);
        if (kind < 40) {
            int value = about(100);
            same("tell", () -> x.tell(sensor, value), () -> model.tell(sensor, value));
        } else if (kind < 56) {
            int ticks = pick(3) == 0 ? about(21) : about(5);
            same("open", () -> x.open(buyer, sensor, ticks), () -> model.open(buyer, sensor, ticks));
        } else {
            int reading = aboutReading();
            same("challenge", () -> x.challenge(buyer, reading), () -> model.challenge(buyer, reading));
        }
    }

    /** Every second one by a neighbour, and near the value that was told. */
    private void sample() {
        int reading = aboutReading();
        boolean fits = reading >= 0 && reading < model.readings() && pick(2) == 0;
        int[] steps = {-4, -1, 1, 4};
        int sensor = fits ? within(model.sensorOf(reading) + steps[pick(4)], 11) : aboutSensor();
        int value = fits ? within(model.valueOf(reading) - 8 + pick(17), 99) : about(100);
        same("sample", () -> x.sample(sensor, reading, value), () -> model.sample(sensor, reading, value));
    }

    private static int within(int number, int most) {
        return Math.max(0, Math.min(most, number));
    }

    // ---- calls that change nothing

    private void look() {
        int kind = pick(15);
        if (kind < 6) {
            lookAtReading(kind, aboutReading());
        } else if (kind < 12) {
            lookAtPurses(kind, aboutSensor(), about(6));
        } else {
            lookAtWhole(kind);
        }
    }

    private void lookAtReading(int kind, int reading) {
        switch (kind) {
            case 0:
                same("stateOf", () -> x.stateOf(reading), () -> model.stateOf(reading));
                break;
            case 1:
                same("parts", () -> x.parts(reading), () -> model.parts(reading));
                break;
            case 2:
                same("users", () -> x.users(reading), () -> model.users(reading));
                break;
            case 3:
                same("held", () -> x.held(reading), () -> model.held(reading));
                break;
            case 4:
                same("middle", () -> x.middle(reading), () -> model.middle(reading));
                break;
            default:
                int place = about(5);
                same("textAt", () -> x.textAt(reading, place), () -> model.textAt(reading, place));
                break;
        }
    }

    private void lookAtPurses(int kind, int sensor, int buyer) {
        switch (kind) {
            case 6:
                same("bond", () -> x.bond(sensor), () -> model.bond(sensor));
                break;
            case 7:
                same("bondByCuts", () -> x.bondByCuts(sensor), () -> model.bond(sensor));
                break;
            case 8:
                same("earned", () -> x.earned(sensor), () -> model.earned(sensor));
                break;
            case 9:
                same("mark", () -> x.mark(sensor), () -> model.mark(sensor));
                break;
            case 10:
                same("purse", () -> x.purse(buyer), () -> model.purse(buyer));
                break;
            default:
                same("aside", () -> x.aside(buyer, sensor), () -> model.aside(buyer, sensor));
                break;
        }
    }

    private void lookAtWhole(int kind) {
        switch (kind) {
            case 12:
                same("tick", x::tick, model::tick);
                break;
            case 13:
                same("readings", x::readings, model::readings);
                break;
            default:
                same("house", x::house, model::house);
                break;
        }
    }

    /** All that anybody has, and what is still held, aside or at stake: no money comes or goes. */
    private void lookAtAll() {
        for (int kind = 12; kind < 15; kind++) {
            lookAtWhole(kind);
        }
        int sum = model.house();
        for (int s = 0; s < 12; s++) {
            for (int kind = 6; kind < 10; kind++) {
                lookAtPurses(kind, s, 0);
            }
            sum += model.bond(s) + model.earned(s);
            for (int b = 0; b < 6; b++) {
                lookAtPurses(11, s, b);
                sum += model.aside(b, s);
            }
        }
        for (int b = 0; b < 6; b++) {
            lookAtPurses(10, 0, b);
            sum += model.purse(b);
        }
        for (int r = 0; r < model.readings(); r++) {
            lookAtReading(0, r);
            lookAtReading(3, r);
            sum += model.held(r) + (model.stateOf(r) == SensorBond.CHALLENGED ? 4 : 0);
        }
        Checks.due("run " + run + ": all money", ALL_MONEY, sum);
        Checks.holds("run " + run + ": all was promised, " + calls, calls <= PROMISED);
    }

    private void countSigns() {
        for (int r = 0; r < model.readings(); r++) {
            seen.merge("sign " + ".?+-x".charAt(model.stateOf(r)), 1, Integer::sum);
        }
    }
}
