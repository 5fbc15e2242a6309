import java.util.Map;
import java.util.TreeMap;

/** Long runs of calls, good and bad ones, against {@link PlainModel}; the runs are the same each time. */
public final class ModelTest {
    private static final int RUNS = 400;
    /** Beyond the 512 that the document promises, for the machine may not throw later either. */
    private static final int CALLS = 600;
    private static final int PROMISED = 512;
    private static final int ALL_MONEY = 6 * 200 + 12 * 100;

    private static final Map<String, Integer> seen = new TreeMap<>();
    private static long seed;

    private ModelTest() {
    }

    public static void main(String[] args) {
        for (int run = 0; run < RUNS; run++) {
            seed = run;
            play(run);
        }
        System.out.println("seen: " + seen);
        for (String must : new String[] {"open", "challenge", "sample", "tell", "topUp", "setLoss", "hang", "attach",
            "setPrice", "advance"}) {
            Checks.holds(must + " is answered often", seen.getOrDefault(must + " answered", 0) > 1000);
            Checks.holds(must + " is refused often", seen.getOrDefault(must + " refused", 0) > 100);
        }
        for (char sign : ".?+-x".toCharArray()) {
            Checks.holds("there are many " + sign, seen.getOrDefault("sign " + sign, 0) > 100);
        }
        Checks.close("ModelTest");
    }

    private static int pick(int bound) {
        seed = seed * 6364136223846793005L + 1442695040888963407L;
        return (int) ((seed >>> 33) % bound);
    }

    /** Mostly a number from 0 to one less than the bound, seldom one outside. */
    private static int about(int bound) {
        switch (pick(60)) {
            case 0:
                return -1;
            case 1:
                return bound;
            case 2:
                return pick(2) == 0 ? Integer.MIN_VALUE : Integer.MAX_VALUE;
            default:
                return pick(bound);
        }
    }

    private static void play(int run) {
        SensorBond x = new SensorBond();
        PlainModel model = new PlainModel();
        int sensors = run % 3 == 0 ? 3 : 12;
        int patience = 4 + run % 30;
        for (int i = 0; i < CALLS; i++) {
            String before = Views.line(x);
            String name = step(run, x, model, sensors, patience, i < PROMISED);
            String after = Views.line(x);
            for (int s = 0; s < 12; s++) {
                Checks.due("bond and bondByCuts", x.bond(s), x.bondByCuts(s));
            }
            if (name.endsWith("refused")) {
                Checks.due("run " + run + ": refused " + name, before, after);
            }
            seen.merge(name, 1, Integer::sum);
            if (i < PROMISED) {
                Checks.due("run " + run + ": after " + name, model.snapshot(), after);
                Checks.due("run " + run + ": all money after " + name, ALL_MONEY, allMoney(x));
            }
        }
        for (int i = 0; i < x.readings(); i++) {
            seen.merge("sign " + ".?+-x".charAt(x.stateOf(i)), 1, Integer::sum);
        }
    }

    private static String step(int run, SensorBond x, PlainModel model, int sensors, int patience, boolean promised) {
        int kind = pick(100);
        int sensor = about(sensors == 3 && pick(2) == 0 ? 3 : 12);
        int six = about(6);
        int other = about(6);
        int value = about(100);
        int reading = x.readings() == 0 ? about(1) : about(3) == 2 ? about(x.readings()) : x.readings() - 1 - pick(3);
        String name;
        String got;
        String want;
        if (kind < 4) {
            name = "hang";
            got = Checks.answerOf(() -> x.hang(six, other));
            want = Checks.answerOf(() -> model.hang(six, other));
        } else if (kind < 7) {
            name = "attach";
            got = Checks.answerOf(() -> x.attach(sensor, six));
            want = Checks.answerOf(() -> model.attach(sensor, six));
        } else if (kind < 11) {
            int n = pick(3) == 0 ? 0 : about(10);
            name = "setLoss";
            got = Checks.answerOf(() -> x.setLoss(six, n));
            want = Checks.answerOf(() -> model.setLoss(six, n));
        } else if (kind < 15) {
            int price = about(21);
            name = "setPrice";
            got = Checks.answerOf(() -> x.setPrice(sensor, price));
            want = Checks.answerOf(() -> model.setPrice(sensor, price));
        } else if (kind < 20) {
            int amount = about(12);
            name = "topUp";
            got = Checks.answerOf(() -> x.topUp(sensor, amount));
            want = Checks.answerOf(() -> model.topUp(sensor, amount));
        } else if (kind < 40) {
            name = "tell";
            got = Checks.answerOf(() -> x.tell(sensor, value));
            want = Checks.answerOf(() -> model.tell(sensor, value));
        } else if (kind < 56) {
            int ticks = pick(3) == 0 ? about(21) : about(5);
            name = "open";
            got = Checks.answerOf(() -> x.open(six, sensor, ticks));
            want = Checks.answerOf(() -> model.open(six, sensor, ticks));
        } else if (kind < 68) {
            name = "challenge";
            got = Checks.answerOf(() -> x.challenge(six, reading));
            want = Checks.answerOf(() -> model.challenge(six, reading));
        } else if (kind < 100 - patience / 2) {
            int near = value >= 0 && pick(2) == 0 ? nearValueOf(x, reading, value) : value;
            int giver = near == value ? sensor : neighbourOf(x, reading, sensor);
            name = "sample";
            got = Checks.answerOf(() -> x.sample(giver, reading, near));
            want = Checks.answerOf(() -> model.sample(giver, reading, near));
        } else {
            int ticks = pick(20) == 0 ? about(101) : pick(30) == 0 ? about(2) : 1 + pick(3);
            name = "advance";
            got = Checks.answerOf(() -> x.advance(ticks));
            want = Checks.answerOf(() -> model.advance(ticks));
        }
        if (promised) {
            Checks.due("run " + run + ": " + name, want, got);
        } else {
            Checks.holds("run " + run + ": " + name + " answered " + got, isAllowed(got));
        }
        return name + (got.startsWith("java") ? " refused" : " answered");
    }

    private static boolean isAllowed(String answer) {
        return !answer.startsWith("java") || answer.equals("java.lang.IndexOutOfBoundsException")
            || answer.equals("java.lang.IllegalArgumentException") || answer.equals("java.lang.IllegalStateException");
    }

    private static int nearValueOf(SensorBond x, int reading, int otherwise) {
        if (reading < 0 || reading >= x.readings()) {
            return otherwise;
        }
        int value = x.textAt(reading, 1) - '0';
        int next = x.textAt(reading, 2) - '0';
        if (next >= 0 && next <= 9) {
            value = value * 10 + next;
        }
        return Math.max(0, Math.min(99, value - 8 + pick(17)));
    }

    private static int neighbourOf(SensorBond x, int reading, int otherwise) {
        if (reading < 0 || reading >= x.readings()) {
            return otherwise;
        }
        int[] steps = {-4, -1, 1, 4};
        return Math.max(0, Math.min(11, x.textAt(reading, 0) - 'a' + steps[pick(4)]));
    }

    private static long allMoney(SensorBond x) {
        long sum = x.house();
        for (int s = 0; s < 12; s++) {
            sum += x.bond(s) + x.earned(s);
            for (int b = 0; b < 6; b++) {
                sum += x.aside(b, s);
            }
        }
        for (int b = 0; b < 6; b++) {
            sum += x.purse(b);
        }
        for (int r = 0; r < x.readings(); r++) {
            sum += x.held(r) + (x.stateOf(r) == SensorBond.CHALLENGED ? 4 : 0);
        }
        return sum;
    }
}
