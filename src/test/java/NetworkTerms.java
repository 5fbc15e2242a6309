import java.util.ArrayList;
import java.util.List;

/** Tests of the terms that tell of the whole, of sensors and repeaters, and of how readings go out. */
final class NetworkTerms {
    private NetworkTerms() {
    }

    // ---- the whole

    /** A window, and 30 ticks with an answered call, 15 refused ones and the one that ends the tick. */
    private static SensorBond after511Calls() {
        SensorBond x = new SensorBond();
        x.open(0, 0, 20);
        for (int tick = 0; tick < 30; tick++) {
            int sensor = tick % 12;
            x.tell(sensor, 50);
            for (int i = 0; i < 15; i++) {
                Checks.badState("told already", () -> x.tell(sensor, 50));
            }
            x.advance(1);
        }
        return x;
    }

    static void the512thCall() {
        Checks.due("tell", 30, after511Calls().tell(0, 50));
        Checks.due("open", 34, after511Calls().open(0, 0, 5));
        Checks.due("challenge", 4, after511Calls().challenge(0, 29));
        Checks.due("advance", 130, after511Calls().advance(100));
        Checks.due("bondByCuts", 100, after511Calls().bondByCuts(0));
        Checks.due("earned", 2, after511Calls().earned(0));
        Checks.due("mark", 3, after511Calls().mark(0));
        Checks.due("purse", 198, after511Calls().purse(0));
        Checks.due("textAt", '.', after511Calls().textAt(29, 3));
        Checks.badState("refused", () -> after511Calls().sample(1, 29, 0));
    }

    static void bondsCoverAllCuts() {
        SensorBond x = threeChallenged();
        Scenes.judge(x, 0, 99);
        Checks.due("a cut that the bond covers", 20, x.bond(0));
        Scenes.judge(x, 1, 50);
        Checks.due("who used what stood has paid for it", 180, x.purse(1));
        Checks.due("and the sensor is paid, with the stake", 24, x.earned(0));
        Scenes.judge(x, 2, 99);
        Checks.due("a cut of all that was left", 0, x.bond(0));
        Checks.due("who used the lie gets 20 back, and half of 20", 200 - 20 + 20 + 10, x.purse(2));
        Checks.due("who opened behind it gets nothing", 180, x.purse(3));

        SensorBond y = new SensorBond();
        y.setPrice(0, 20);
        y.open(1, 0, 2);
        y.tell(0, 0);
        y.advance(1);
        y.tell(0, 0);
        y.challenge(2, 0);
        y.challenge(2, 1);
        Scenes.judge(y, 0, 99);
        Checks.due("nothing is left of the bond", 0, y.bond(0));
        Checks.due("user", 160 + 20 + 50, y.purse(1));
        Checks.due("challenger", 192 + 4 + 25, y.purse(2));
        Checks.due("house", 25, y.house());
        Scenes.judge(y, 1, 99);
        Checks.due("an empty bond stays empty", 0, y.bond(0));
        Checks.due("the user only gets its price back", 250, y.purse(1));
        Checks.due("the challenger only gets its stake back", 225, y.purse(2));
        Checks.due("the house gets nothing", 25, y.house());
        Checks.due("it is a LIE all the same", -6, y.mark(0));
    }

    /** Sensor 0 at the price 20: readings that nobody, buyer 1 and buyer 2 used, all challenged by buyer 0. */
    private static SensorBond threeChallenged() {
        SensorBond x = new SensorBond();
        x.setPrice(0, 20);
        x.tell(0, 0);
        x.advance(1);
        x.open(1, 0, 1);
        x.tell(0, 50);
        x.advance(1);
        x.open(2, 0, 1);
        x.tell(0, 50);
        x.open(3, 0, 1);
        for (int reading = 0; reading < 3; reading++) {
            x.challenge(0, reading);
        }
        return x;
    }

    static void firstNamedException() {
        firstNamedOfNetworkCalls();
        firstNamedOfBuyersCalls();
    }

    private static void firstNamedOfNetworkCalls() {
        Refusals.index("setLoss: repeater and n", Scenes::busy, x -> x.setLoss(6, 1));
        Refusals.index("setPrice: sensor and price", Scenes::busy, x -> x.setPrice(12, 0));
        Refusals.index("topUp: sensor and amount", Scenes::busy, x -> x.topUp(-1, 0));
        Refusals.index("topUp: sensor and purse", Scenes::busy, x -> x.topUp(12, Integer.MAX_VALUE));
        Refusals.argument("topUp: amount 0 at an empty purse", SensorBond::new, x -> x.topUp(0, 0));
        Refusals.index("tell: sensor and value", Scenes::busy, x -> x.tell(12, 100));
        Refusals.index("tell: sensor, and there are 80", Scenes::full, x -> x.tell(12, 0));
        Refusals.argument("tell: value, and told in this tick", Scenes::busy, x -> x.tell(5, 100));
        Refusals.argument("tell: value, and muted", Scenes::muted, x -> x.tell(0, -1));
        Refusals.argument("tell: value, and there are 80", Scenes::full, x -> x.tell(11, 100));
    }

    private static void firstNamedOfBuyersCalls() {
        int stood = Scenes.STOOD_ONE;
        int challenged = Scenes.CHALLENGED_ONE;
        int fresh = Scenes.FRESH_ONE;
        Refusals.index("open: buyer and ticks", Scenes::busy, x -> x.open(6, 0, 0));
        Refusals.index("open: sensor and ticks", Scenes::busy, x -> x.open(0, 12, 21));
        Refusals.index("open: sensor and purse", () -> Scenes.withPurse(0), x -> x.open(0, 12, 1));
        Refusals.argument("open: ticks, and has one", Scenes::busy, x -> x.open(0, 0, 0));
        Refusals.argument("open: ticks and purse", () -> Scenes.withPurse(0), x -> x.open(0, 0, 21));
        Refusals.index("challenge: buyer, and not FRESH", Scenes::busy, x -> x.challenge(6, stood));
        Refusals.index("challenge: reading and purse", () -> Scenes.withPurse(0), x -> x.challenge(0, 0));
        Refusals.index("sample: sensor and value", Scenes::busy, x -> x.sample(12, challenged, 100));
        Refusals.index("sample: sensor, and not CHALLENGED", Scenes::busy, x -> x.sample(-1, fresh, 0));
        Refusals.index("sample: reading and value", Scenes::busy, x -> x.sample(4, Scenes.BUSY_READINGS, -1));
        Refusals.argument("sample: value, and not CHALLENGED", Scenes::busy, x -> x.sample(5, fresh, 100));
        Refusals.argument("sample: value, and no neighbour", Scenes::busy, x -> x.sample(0, challenged, -1));
        Refusals.argument("sample: value, and has given one", Scenes::busy, x -> x.sample(1, challenged, 100));
        Refusals.argument("advance: ticks, and above 10000", () -> Scenes.atTick(9900), x -> x.advance(101));
        Refusals.argument("advance: no ticks, at the last tick", () -> Scenes.atTick(10000), x -> x.advance(0));
    }

    // ---- sensors, buyers and repeaters

    static void ticksFrom0() {
        SensorBond x = new SensorBond();
        Checks.due("the first tick", 0, x.tick());
        Checks.due("the only tick of a window that is opened at once", 0, x.open(0, 0, 1));
        Checks.due("the second tick", 1, x.advance(1));
    }

    static void neighbours() {
        int[][] due = {
            {1, 4}, {0, 2, 5}, {1, 3, 6}, {2, 7},
            {0, 5, 8}, {1, 4, 6, 9}, {2, 5, 7, 10}, {3, 6, 11},
            {4, 9}, {5, 8, 10}, {6, 9, 11}, {7, 10},
        };
        for (int sensor = 0; sensor < 12; sensor++) {
            List<Integer> want = new ArrayList<>();
            for (int neighbour : due[sensor]) {
                want.add(neighbour);
            }
            List<Integer> got = new ArrayList<>();
            for (int giver = 0; giver < 12; giver++) {
                if (canSample(giver, sensor)) {
                    got.add(giver);
                }
            }
            Checks.due("those of " + sensor + ", none of them round an end", want.toString(), got.toString());
        }
    }

    private static boolean canSample(int giver, int teller) {
        SensorBond x = new SensorBond();
        x.tell(teller, 50);
        x.challenge(0, 0);
        return Checks.answerOf(() -> x.sample(giver, 0, 50)).equals("1");
    }

    static void buyersAtFirst() {
        Checks.due("house", 0, new SensorBond().house());
        for (int buyer = 0; buyer < 6; buyer++) {
            int number = buyer;
            SensorBond x = new SensorBond();
            Checks.due("purse", 200, x.purse(buyer));
            x.setPrice(0, 10);
            Checks.due("200 can be spent", 19, x.open(buyer, 0, 20));
            Checks.due("all is spent", 0, x.purse(buyer));
            SensorBond y = new SensorBond();
            y.setPrice(0, 10);
            y.open(buyer, 1, 1);
            Checks.badState("201 cannot", () -> y.open(number, 0, 20));
        }
        Checks.noIndex("no buyer -1", () -> new SensorBond().purse(-1));
        Checks.noIndex("no buyer 6", () -> new SensorBond().purse(6));
    }

    static void sensorsAtFirst() {
        for (int sensor = 0; sensor < 12; sensor++) {
            int number = sensor;
            SensorBond x = new SensorBond();
            Checks.due("bond", 100, x.bond(sensor));
            Checks.due("bond by cuts", 100, x.bondByCuts(sensor));
            Checks.due("purse", 0, x.earned(sensor));
            Checks.badState("nothing to put", () -> x.topUp(number, 1));
            x.open(0, sensor, 1);
            Checks.due("a tick costs 1", 199, x.purse(0));
            Checks.due("price", 1, x.setPrice(sensor, 1));
        }
    }

    static void repeaters() {
        SensorBond x = new SensorBond();
        for (int repeater = 0; repeater < 6; repeater++) {
            Checks.due("there is " + repeater, 0, x.setLoss(repeater, 0));
        }
        Checks.noIndex("no -1", () -> x.setLoss(-1, 0));
        Checks.noIndex("no 6", () -> x.setLoss(6, 0));
        Checks.noIndex("the hub hangs on none", () -> x.hang(0, 0));
        x.setLoss(0, 2);
        for (int sensor = 0; sensor < 12; sensor++) {
            Checks.due("all ways end at the hub", 2, x.parts(x.tell(sensor, 0)));
        }
    }

    static void hangingAtFirst() {
        SensorBond x = new SensorBond();
        for (int repeater = 1; repeater < 6; repeater++) {
            int hanging = repeater;
            Checks.noIndex("not on itself", () -> x.hang(hanging, hanging));
            Checks.due("at first on the hub", 0, x.hang(repeater, repeater - 1));
            Checks.due("then on the highest that is lower", repeater - 1, x.hang(repeater, 0));
        }
        for (int repeater = 1; repeater < 6; repeater++) {
            SensorBond y = new SensorBond();
            y.setLoss(repeater, 2);
            for (int sensor = 0; sensor < 12; sensor++) {
                int due = sensor == repeater || sensor == repeater + 6 ? 2 : 4;
                Checks.due("sensor " + sensor + " with repeater " + repeater, due, y.parts(y.tell(sensor, 0)));
            }
        }
        for (int sensor = 0; sensor < 12; sensor++) {
            Checks.due("that of " + sensor, sensor < 6 ? sensor : sensor - 6, x.attach(sensor, 0));
        }
    }

    static void lossyRepeaters() {
        for (int n : new int[] {0, 2, 3, 4, 5, 6, 7, 8, 9}) {
            SensorBond x = new SensorBond();
            x.tell(11, 0);
            x.setLoss(0, n);
            int come = 0;
            for (int i = 0; i < 79; i++) {
                if (i % 12 == 0) {
                    x.advance(1);
                }
                int due = 0;
                for (int part = 0; part < 4; part++) {
                    come++;
                    due += n != 0 && come % n == 0 ? 0 : 1;
                }
                Checks.due("parts with " + n, due, x.parts(x.tell(i % 12, 0)));
            }
            Checks.due("lost with " + n, n == 0 ? 0 : come / n, x.setLoss(0, 0));
        }
    }

    // ---- readings

    static void numbersOfReadings() {
        SensorBond x = new SensorBond();
        Checks.noIndex("none at first", () -> x.stateOf(0));
        Checks.due("the first", 0, x.tell(5, 0));
        SensorBond full = Scenes.full();
        Checks.due("eighty", 80, full.readings());
        Checks.due("the last", "h79.", Views.text(full, 79));
        Refusals.state("no more", Scenes::full, y -> y.tell(8, 0));
        full.advance(100);
        Checks.badState("nor later", () -> full.tell(8, 0));
        Checks.noIndex("there is no 80", () -> full.stateOf(80));
    }

    static void onceATick() {
        Refusals.argumentRange(0, 99, SensorBond::new, (x, value) -> x.tell(0, value));
        SensorBond x = new SensorBond();
        x.tell(0, 0);
        Checks.badState("twice in the first tick", () -> x.tell(0, 99));
        Checks.due("another sensor", 1, x.tell(1, 99));
        x.advance(1);
        Checks.due("the next tick", 2, x.tell(0, 99));
        Checks.badState("twice in it", () -> x.tell(0, 0));
        x.advance(4);
        Checks.due("some ticks later", 3, x.tell(0, 0));
        x.setLoss(2, 2);
        x.tell(2, 0);
        Checks.badState("once, though it was LOST", () -> x.tell(2, 0));
    }

    static void waysOfParts() {
        for (int repeater = 0; repeater < 6; repeater++) {
            SensorBond x = chain();
            x.setLoss(repeater, 4);
            Checks.due("the fourth does not pass " + repeater, 3, x.parts(x.tell(5, 0)));
            Checks.due("it is lost there", 1, x.setLoss(repeater, 5));
            Checks.due("a fifth does not come to " + repeater, 4, x.parts(x.tell(11, 0)));
            Checks.due("so none is lost there", 0, x.setLoss(repeater, 0));
        }
        Checks.due("one lost at 5 does not come to 4", 2, partsWith(2, 3));
        Checks.due("the second of the two that come to 4", 1, partsWith(2, 2));
        Checks.due("the fourth at 5, the third at 4", 2, partsWith(4, 3));
        SensorBond y = chain();
        y.hang(4, 1);
        y.setLoss(2, 2);
        y.setLoss(3, 2);
        Checks.due("2 and 3 are beside the way", 4, y.parts(y.tell(5, 0)));
        SensorBond hub = new SensorBond();
        hub.setLoss(0, 2);
        Checks.due("a sensor on the hub itself", 2, hub.parts(hub.tell(6, 0)));
    }

    /** Each repeater hangs on the one below it: the way of the sensors 5 and 11 goes over all. */
    private static SensorBond chain() {
        SensorBond x = new SensorBond();
        for (int repeater = 1; repeater < 6; repeater++) {
            x.hang(repeater, repeater - 1);
        }
        return x;
    }

    private static int partsWith(int lossOf5, int lossOf4) {
        SensorBond x = chain();
        x.setLoss(5, lossOf5);
        x.setLoss(4, lossOf4);
        return x.parts(x.tell(5, 0));
    }

    static void threeParts() {
        SensorBond x = Scenes.withAllParts();
        for (int reading = 0; reading < Scenes.PARTS.length; reading++) {
            int parts = Scenes.PARTS[reading];
            Checks.due("parts", parts, x.parts(reading));
            Checks.due("state of " + parts, parts < 3 ? SensorBond.LOST : SensorBond.FRESH, x.stateOf(reading));
        }
        x.advance(100);
        Checks.due("with two it is LOST for ever", SensorBond.LOST, x.stateOf(3));
        Checks.due("with three it has STOOD", SensorBond.STOOD, x.stateOf(4));
    }

    static void muted() {
        SensorBond x = new SensorBond();
        x.setPrice(0, 20);
        Scenes.lie(x, 0);
        x.advance(1);
        Checks.due("bond", 20, x.bond(0));
        Checks.due("with 20 it is not muted", 1, x.tell(0, 50));

        SensorBond y = Scenes.muted();
        Checks.due("bond", 16, y.bond(0));
        Checks.badState("muted with 16", () -> y.tell(0, 50));
        y.topUp(0, 3);
        Checks.badState("muted with 19", () -> y.tell(0, 50));
        Checks.due("nothing is told", 3, y.readings());
        y.topUp(0, 1);
        Checks.due("not muted with 20", 3, y.tell(0, 50));

        SensorBond z = new SensorBond();
        z.setPrice(0, 20);
        z.open(1, 0, 1);
        Scenes.lie(z, 0);
        z.advance(1);
        Checks.due("bond", 0, z.bond(0));
        Checks.badState("muted with 0", () -> z.tell(0, 50));
        Checks.due("the others are not", 1, z.tell(1, 50));
    }

    static void texts() {
        int[] values = {0, 1, 9, 10, 11, 50, 89, 90, 98, 99, 5, 30};
        String[] due = {"a0", "b1", "c9", "d10", "e11", "f50", "g89", "h90", "i98", "j99", "k5", "l30"};
        SensorBond x = new SensorBond();
        for (int sensor = 0; sensor < 12; sensor++) {
            x.tell(sensor, values[sensor]);
            Checks.due("FRESH", due[sensor] + ".", Views.text(x, sensor));
            x.challenge(sensor % 6, sensor);
            Checks.due("CHALLENGED", due[sensor] + "?", Views.text(x, sensor));
        }
        x.sample(11, 10, 99);
        x.advance(5);
        Checks.due("a LIE", "k5-", Views.text(x, 10));
        Checks.due("has STOOD", "l30+", Views.text(x, 11));
        x.setLoss(0, 2);
        Checks.due("LOST", "a0x", Views.text(x, x.tell(0, 0)));
    }

    static void none() {
        Checks.due("NONE", -1, SensorBond.NONE);
    }

    static void states() {
        Checks.due("FRESH", 0, SensorBond.FRESH);
        Checks.due("CHALLENGED", 1, SensorBond.CHALLENGED);
        Checks.due("STOOD", 2, SensorBond.STOOD);
        Checks.due("LIE", 3, SensorBond.LIE);
        Checks.due("LOST", 4, SensorBond.LOST);
        SensorBond x = Scenes.busy();
        Checks.due("the FRESH one", SensorBond.FRESH, x.stateOf(Scenes.FRESH_ONE));
        Checks.due("the CHALLENGED one", SensorBond.CHALLENGED, x.stateOf(Scenes.CHALLENGED_ONE));
        Checks.due("the one that STOOD", SensorBond.STOOD, x.stateOf(Scenes.STOOD_ONE));
        Checks.due("the LIE", SensorBond.LIE, x.stateOf(Scenes.LIE_ONE));
        Checks.due("the LOST one", SensorBond.LOST, x.stateOf(Scenes.LOST_ONE));
    }
}
