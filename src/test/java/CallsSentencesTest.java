import java.io.IOException;

/** A test of its own for each sentence of the promises 1 to 11: the new object, and the calls that change it. */
public final class CallsSentencesTest {
    private static final String NO_SENSOR = "Throws `IndexOutOfBoundsException` if there is no such sensor";
    private static final String SENSORS = "- `sensor`: 0 to 11";
    private static final String BUYERS = "- `buyer`: 0 to 5";
    private static final String READINGS = "- `reading`: a reading";
    private static final String VALUES = "- `value`: 0 to 99";
    private static final String BAD_VALUE = "Throws `IllegalArgumentException` if value is out of range";
    private static final String BAD_TICKS = "Throws `IllegalArgumentException` if ticks is out of range";

    private CallsSentencesTest() {
    }

    public static void main(String[] args) throws IOException {
        Sentences promises = Sentences.ofPromises("CallsSentencesTest", 1, 11);
        promises.test(1, "The tick 0; no readings, windows and challenges; repeaters lose nothing.",
            CallsSentencesTest::newObject);
        hang(promises);
        attach(promises);
        setLoss(promises);
        setPrice(promises);
        topUp(promises);
        tell(promises);
        open(promises);
        challenge(promises);
        sample(promises);
        advance(promises);
        promises.close();
    }

    // ---- promise 1

    private static void newObject() {
        SensorBond x = new SensorBond();
        Checks.due("tick", 0, x.tick());
        Checks.due("readings", 0, x.readings());
        Checks.noIndex("no reading 0", () -> x.stateOf(0));
        Checks.noIndex("nothing to challenge", () -> x.challenge(0, 0));
        Checks.noIndex("no challenge to sample for", () -> x.sample(0, 0, 0));
        for (int buyer = 0; buyer < 6; buyer++) {
            for (int sensor = 0; sensor < 12; sensor++) {
                Checks.due("aside", 0, x.aside(buyer, sensor));
                Checks.due("no window yet", 0, x.open(buyer, sensor, 1));
            }
        }
        for (int repeater = 0; repeater < 6; repeater++) {
            Checks.due("lost", 0, x.setLoss(repeater, 0));
        }
        SensorBond y = Scenes.full();
        for (int reading = 0; reading < 80; reading++) {
            Checks.due("parts", 4, y.parts(reading));
        }
        Checks.due("another object does not change it", Story.of(SensorBond::new), Story.of(() -> {
            SensorBond first = new SensorBond();
            Scenes.busy();
            return first;
        }));
    }

    // ---- promise 2

    private static void hang(Sentences promises) {
        promises.test(2, "Hangs a repeater on another one.", () -> {
            SensorBond x = new SensorBond();
            x.setLoss(1, 2);
            x.hang(5, 1);
            Checks.due("the way of 5 is by 1 now", 2, x.parts(x.tell(5, 0)));
            Checks.due("that of 4 is not", 4, x.parts(x.tell(4, 0)));
            x.hang(5, 0);
            Checks.due("and no longer that of 5", 4, x.parts(x.tell(11, 0)));
        });
        promises.test(2, "- `repeater`: 1 to 5", () -> Refusals.indexRange(1, 5, Scenes::busy, (x, r) -> x.hang(r, 0)));
        promises.test(2, "- `on`: 0 to one less than repeater", () -> {
            for (int repeater = 1; repeater < 6; repeater++) {
                int hanging = repeater;
                Refusals.indexRange(0, repeater - 1, Scenes::busy, (x, on) -> x.hang(hanging, on));
            }
        });
        promises.test(2, "Returns the one on which it hung.", () -> {
            SensorBond x = new SensorBond();
            Checks.due("at first", 0, x.hang(5, 4));
            Checks.due("the highest", 4, x.hang(5, 4));
            Checks.due("the same again", 4, x.hang(5, 0));
            Checks.due("the hub again", 0, x.hang(5, 2));
            Checks.due("another repeater", 0, x.hang(1, 0));
        });
        promises.test(2, "Throws `IndexOutOfBoundsException` if there is no such repeater, repeater is the hub, or on "
            + "is not lower", () -> {
                Refusals.index("no repeater -1", Scenes::busy, x -> x.hang(-1, 0));
                Refusals.index("no repeater 6", Scenes::busy, x -> x.hang(6, 0));
                Refusals.index("no repeater 6 for the hub's neighbour", Scenes::busy, x -> x.hang(6, 5));
                Refusals.index("the hub on itself", Scenes::busy, x -> x.hang(0, 0));
                Refusals.index("the hub on none", Scenes::busy, x -> x.hang(0, -1));
                Refusals.index("on itself", Scenes::busy, x -> x.hang(3, 3));
                Refusals.index("on one above", Scenes::busy, x -> x.hang(3, 4));
                Refusals.index("on one that hangs on it", Scenes::busy, x -> x.hang(4, 5));
                Refusals.index("on none", Scenes::busy, x -> x.hang(3, -1));
            });
    }

    // ---- promise 3

    private static void attach(Sentences promises) {
        promises.test(3, "Hangs a sensor on a repeater.", () -> {
            SensorBond x = new SensorBond();
            x.setLoss(5, 2);
            x.attach(0, 5);
            Checks.due("its way is by 5 now", 2, x.parts(x.tell(0, 0)));
            x.attach(11, 0);
            Checks.due("its way is no longer by 5", 4, x.parts(x.tell(11, 0)));
        });
        promises.test(3, SENSORS, () -> Refusals.indexRange(0, 11, Scenes::busy, (x, s) -> x.attach(s, 1)));
        promises.test(3, "- `on`: 0 to 5", () -> Refusals.indexRange(0, 5, Scenes::busy, (x, r) -> x.attach(7, r)));
        promises.test(3, "Returns the one on which it hung.", () -> {
            SensorBond x = new SensorBond();
            Checks.due("at first", 5, x.attach(11, 0));
            Checks.due("the lowest", 0, x.attach(11, 5));
            Checks.due("the highest", 5, x.attach(11, 5));
            Checks.due("the same", 5, x.attach(11, 1));
            Checks.due("another sensor", 5, x.attach(5, 1));
        });
        promises.test(3, "Throws `IndexOutOfBoundsException` if there is no such sensor or repeater", () -> {
            Refusals.index("no sensor -1", Scenes::busy, x -> x.attach(-1, 0));
            Refusals.index("no sensor 12", Scenes::busy, x -> x.attach(12, 0));
            Refusals.index("no repeater -1", Scenes::busy, x -> x.attach(0, -1));
            Refusals.index("no repeater 6", Scenes::busy, x -> x.attach(0, 6));
            Refusals.index("neither", Scenes::busy, x -> x.attach(12, 6));
        });
    }

    // ---- promise 4

    private static void setLoss(Sentences promises) {
        promises.test(4, "Sets which parts a repeater loses; parts that come to it are counted from 0 on anew.", () -> {
            SensorBond x = new SensorBond();
            x.setLoss(1, 5);
            Checks.due("the first four", 4, x.parts(x.tell(1, 0)));
            x.setLoss(1, 5);
            Checks.due("four from 0 on", 4, x.parts(x.tell(7, 0)));
            x.advance(1);
            Checks.due("then the fifth", 3, x.parts(x.tell(1, 0)));
            x.setLoss(1, 0);
            Checks.due("none", 4, x.parts(x.tell(7, 0)));
            x.advance(1);
            x.setLoss(1, 8);
            Checks.due("four of eight", 4, x.parts(x.tell(1, 0)));
            Checks.due("the eighth", 3, x.parts(x.tell(7, 0)));
        });
        promises.test(4, "- `repeater`: 0 to 5",
            () -> Refusals.indexRange(0, 5, Scenes::busy, (x, r) -> x.setLoss(r, 2)));
        promises.test(4, "- `n`: 0, or 2 to 9", () -> {
            Refusals.taken(0, 0, Scenes::busy, (x, n) -> x.setLoss(4, n));
            Refusals.argumentRange(2, 9, Scenes::busy, (x, n) -> x.setLoss(4, n));
            Refusals.argument("no -1", Scenes::busy, x -> x.setLoss(4, -1));
        });
        promises.test(4, "Returns how many parts it has lost since it was set last.", () -> {
            SensorBond x = new SensorBond();
            x.tell(3, 0);
            Checks.due("none, for it was never set", 0, x.setLoss(3, 2));
            Checks.due("none, for none came", 0, x.setLoss(3, 2));
            x.tell(9, 0);
            Checks.due("two of four", 2, x.setLoss(3, 9));
            for (int i = 0; i < 4; i++) {
                x.advance(1);
                x.tell(3, 0);
                x.tell(9, 0);
            }
            Checks.due("three of thirty-two", 3, x.setLoss(3, 0));
            x.advance(1);
            x.tell(3, 0);
            Checks.due("none with 0", 0, x.setLoss(3, 5));
            x.tell(9, 0);
            Checks.due("none of four", 0, x.setLoss(3, 4));
        });
        promises.test(4, "Throws `IndexOutOfBoundsException` if there is no such repeater", () -> {
            Refusals.index("no -1", Scenes::busy, x -> x.setLoss(-1, 0));
            Refusals.index("no 6", Scenes::busy, x -> x.setLoss(6, 9));
        });
        promises.test(4, "Throws `IllegalArgumentException` if n is out of range", () -> {
            Refusals.argument("1", Scenes::busy, x -> x.setLoss(4, 1));
            Refusals.argument("10", Scenes::busy, x -> x.setLoss(4, 10));
            Refusals.argument("-2", Scenes::busy, x -> x.setLoss(0, -2));
        });
    }

    // ---- promise 5

    private static void setPrice(Sentences promises) {
        promises.test(5, "Sets the price of a sensor, for windows that are opened later, and for cuts.", () -> {
            SensorBond x = new SensorBond();
            x.open(0, 0, 2);
            x.setPrice(0, 20);
            Checks.due("an open window keeps its price", 2, x.aside(0, 0));
            x.open(1, 0, 2);
            Checks.due("a later one has the new price", 40, x.aside(1, 0));
            x.open(0, 1, 2);
            Checks.due("another sensor keeps its price", 2, x.aside(0, 1));
            x.tell(0, 0);
            Checks.due("each pays by its own", 21, x.held(0));
            x.setPrice(0, 2);
            Checks.due("what is held stays", 21, x.held(0));
            x.challenge(2, 0);
            x.setPrice(0, 3);
            Scenes.judge(x, 0, 99);
            Checks.due("the cut is by the last price", 100 - 4 * 3 * 3, x.bond(0));
        });
        promises.test(5, SENSORS, () -> Refusals.indexRange(0, 11, Scenes::busy, (x, s) -> x.setPrice(s, 9)));
        promises.test(5, "- `price`: 1 to 20",
            () -> Refusals.argumentRange(1, 20, Scenes::busy, (x, price) -> x.setPrice(5, price)));
        promises.test(5, "Returns the price before.", () -> {
            SensorBond x = new SensorBond();
            Checks.due("at first", 1, x.setPrice(11, 20));
            Checks.due("the highest", 20, x.setPrice(11, 20));
            Checks.due("the same", 20, x.setPrice(11, 1));
            Checks.due("the lowest", 1, x.setPrice(11, 2));
            Checks.due("another sensor", 1, x.setPrice(10, 2));
        });
        promises.test(5, NO_SENSOR, () -> {
            Refusals.index("no -1", Scenes::busy, x -> x.setPrice(-1, 1));
            Refusals.index("no 12", Scenes::busy, x -> x.setPrice(12, 20));
        });
        promises.test(5, "Throws `IllegalArgumentException` if price is out of range", () -> {
            Refusals.argument("0", Scenes::busy, x -> x.setPrice(5, 0));
            Refusals.argument("21", Scenes::busy, x -> x.setPrice(5, 21));
            Refusals.argument("-1", Scenes::busy, x -> x.setPrice(5, -1));
        });
    }

    // ---- promise 6

    private static void topUp(Sentences promises) {
        promises.test(6, "A sensor puts some of its purse to its bond.", () -> {
            SensorBond x = Scenes.withEarned(20);
            x.topUp(0, 1);
            Checks.due("purse", 19, x.earned(0));
            Checks.due("bond", 101, x.bond(0));
            x.topUp(0, 19);
            Checks.due("nothing left", 0, x.earned(0));
            Checks.due("all put", 120, x.bond(0));
        });
        promises.test(6, SENSORS, () -> {
            Refusals.taken(0, 11, CallsSentencesTest::allEarned, (x, s) -> x.topUp(s, 1));
            Refusals.noIndexBut(0, 11, CallsSentencesTest::allEarned, (x, s) -> x.topUp(s, 1));
        });
        promises.test(6, "- `amount`: 1 or more", () -> {
            Refusals.taken(1, 20, () -> Scenes.withEarned(20), (x, amount) -> x.topUp(0, amount));
            for (int amount : new int[] {0, -1, Integer.MIN_VALUE}) {
                Refusals.argument("no " + amount, () -> Scenes.withEarned(20), x -> x.topUp(0, amount));
            }
        });
        promises.test(6, "Returns the bond then.", () -> {
            SensorBond x = Scenes.withEarned(20);
            Checks.due("one", 101, x.topUp(0, 1));
            Checks.due("and again", 102, x.topUp(0, 1));
            Checks.due("all the rest", 120, x.topUp(0, 18));
            SensorBond y = Scenes.muted();
            Checks.due("of a muted one", 17, y.topUp(0, 1));
        });
        promises.test(6, NO_SENSOR, () -> {
            Refusals.index("no -1", CallsSentencesTest::allEarned, x -> x.topUp(-1, 1));
            Refusals.index("no 12", CallsSentencesTest::allEarned, x -> x.topUp(12, 1));
        });
        promises.test(6, "Throws `IllegalArgumentException` if amount is below 1", () -> {
            Refusals.argument("0", () -> Scenes.withEarned(20), x -> x.topUp(0, 0));
            Refusals.argument("-1", () -> Scenes.withEarned(20), x -> x.topUp(0, -1));
        });
        promises.test(6, "Throws `IllegalStateException` if its purse is less", () -> {
            Refusals.state("one more than the purse", () -> Scenes.withEarned(20), x -> x.topUp(0, 21));
            Refusals.state("far more", () -> Scenes.withEarned(20), x -> x.topUp(0, Integer.MAX_VALUE));
            Refusals.state("an empty purse", () -> Scenes.withEarned(20), x -> x.topUp(1, 1));
            Refusals.state("a new object", SensorBond::new, x -> x.topUp(11, 1));
            Checks.due("just the purse", 120, Scenes.withEarned(20).topUp(0, 20));
        });
    }

    /** Each sensor has a purse of 1. */
    private static SensorBond allEarned() {
        SensorBond x = new SensorBond();
        for (int sensor = 0; sensor < 12; sensor++) {
            x.open(0, sensor, 1);
            x.tell(sensor, 50);
        }
        x.advance(5);
        return x;
    }

    // ---- promise 7

    private static void tell(Sentences promises) {
        promises.test(7, "A sensor tells a reading.", () -> {
            SensorBond x = new SensorBond();
            x.open(0, 11, 1);
            x.tell(11, 99);
            Checks.due("text", "l99.", Views.text(x, 0));
            Checks.due("users", 1, x.users(0));
            Checks.due("one", 1, x.readings());
        });
        promises.test(7, SENSORS, () -> Refusals.indexRange(0, 11, SensorBond::new, (x, s) -> x.tell(s, 0)));
        promises.test(7, VALUES, () -> Refusals.argumentRange(0, 99, Scenes::busy, (x, value) -> x.tell(0, value)));
        promises.test(7, "Returns the number of the reading.", () -> {
            SensorBond x = new SensorBond();
            Checks.due("the first", 0, x.tell(7, 0));
            Checks.badState("refused", () -> x.tell(7, 0));
            x.setLoss(0, 2);
            Checks.due("none is left out", 1, x.tell(3, 0));
            Checks.due("nor is a LOST one", 2, x.tell(2, 0));
            x.advance(100);
            Checks.due("they go on", 3, x.tell(7, 0));
            Checks.due("the last", 79, Scenes.full().readings() - 1);
        });
        promises.test(7, NO_SENSOR, () -> {
            Refusals.index("no -1", Scenes::busy, x -> x.tell(-1, 0));
            Refusals.index("no 12", Scenes::busy, x -> x.tell(12, 99));
        });
        promises.test(7, BAD_VALUE, () -> {
            Refusals.argument("-1", Scenes::busy, x -> x.tell(0, -1));
            Refusals.argument("100", Scenes::busy, x -> x.tell(0, 100));
        });
        promises.test(7, "Throws `IllegalStateException` if it is muted, has told one in this tick, or there are 80",
            CallsSentencesTest::refusedReadings);
    }

    private static void refusedReadings() {
        Refusals.state("muted", Scenes::muted, x -> x.tell(0, 50));
        Refusals.state("muted with 19", () -> topped(3), x -> x.tell(0, 50));
        Checks.due("not with 20", 3, topped(4).tell(0, 50));
        Refusals.state("has told one", Scenes::busy, x -> x.tell(5, 50));
        Refusals.state("has told a LOST one", Scenes::busy, x -> x.tell(9, 50));
        Refusals.state("has told one in the tick 0", () -> told(0), x -> x.tell(0, 50));
        Refusals.state("there are 80", Scenes::full, x -> x.tell(8, 50));
        SensorBond x = told(0);
        for (int reading = 1; reading < 80; reading++) {
            x.advance(1);
            Checks.due("there are fewer", reading, x.tell(0, 50));
        }
        x.advance(1);
        Checks.badState("there are as many", () -> x.tell(0, 50));
    }

    private static SensorBond topped(int amount) {
        SensorBond x = Scenes.muted();
        x.topUp(0, amount);
        return x;
    }

    private static SensorBond told(int sensor) {
        SensorBond x = new SensorBond();
        x.tell(sensor, 50);
        return x;
    }

    // ---- promise 8

    private static void open(Sentences promises) {
        promises.test(8, "A buyer opens a window.", () -> {
            SensorBond x = new SensorBond();
            x.open(5, 11, 2);
            Checks.due("aside", 2, x.aside(5, 11));
            Checks.due("purse", 198, x.purse(5));
            x.tell(11, 50);
            Checks.due("it uses what is told", 1, x.users(0));
        });
        promises.test(8, BUYERS, () -> Refusals.indexRange(0, 5, Scenes::busy, (x, b) -> x.open(b, 8, 1)));
        promises.test(8, SENSORS, () -> Refusals.indexRange(0, 11, Scenes::busy, (x, s) -> x.open(2, s, 1)));
        promises.test(8, "- `ticks`: 1 to 20",
            () -> Refusals.argumentRange(1, 20, Scenes::busy, (x, ticks) -> x.open(2, 8, ticks)));
        promises.test(8, "Returns the last one of the ticks.", () -> {
            Checks.due("the only one", 0, new SensorBond().open(0, 0, 1));
            Checks.due("the twentieth", 19, new SensorBond().open(0, 0, 20));
            Checks.due("later", 5, Scenes.busy().open(2, 8, 1));
            Checks.due("later, the twentieth", 24, Scenes.busy().open(2, 8, 20));
            Checks.due("the last tick of all", 10000, Scenes.atTick(9981).open(0, 0, 20));
            Checks.due("behind the last tick", 10019, Scenes.atTick(10000).open(0, 0, 20));
        });
        promises.test(8, "Throws `IndexOutOfBoundsException` if there is no such buyer or sensor", () -> {
            Refusals.index("no buyer -1", Scenes::busy, x -> x.open(-1, 8, 1));
            Refusals.index("no buyer 6", Scenes::busy, x -> x.open(6, 8, 1));
            Refusals.index("no sensor -1", Scenes::busy, x -> x.open(2, -1, 1));
            Refusals.index("no sensor 12", Scenes::busy, x -> x.open(2, 12, 1));
        });
        promises.test(8, BAD_TICKS, () -> {
            Refusals.argument("0", Scenes::busy, x -> x.open(2, 8, 0));
            Refusals.argument("21", Scenes::busy, x -> x.open(2, 8, 21));
            Refusals.argument("-1", Scenes::busy, x -> x.open(2, 8, -1));
        });
        promises.test(8, "Throws `IllegalStateException` if the buyer has a window on the sensor, or its purse is too "
            + "small", CallsSentencesTest::refusedWindows);
    }

    private static void refusedWindows() {
        Refusals.state("has one", Scenes::busy, x -> x.open(0, 0, 1));
        Refusals.state("has one of which all is used", CallsSentencesTest::usedUp, x -> x.open(0, 0, 1));
        SensorBond x = usedUp();
        x.advance(1);
        Checks.due("no longer", 1, x.open(0, 0, 1));
        Refusals.state("an empty purse", () -> Scenes.withPurse(0), y -> y.open(0, 0, 1));
        Refusals.state("one too little", () -> Scenes.withPurse(4), y -> y.open(0, 0, 5));
        SensorBond enough = Scenes.withPurse(5);
        Checks.due("just enough", 4, enough.open(0, 0, 5));
        Checks.due("all spent", 0, enough.purse(0));
        Refusals.state("by the price", () -> dear(Scenes.withPurse(19)), y -> y.open(0, 0, 1));
        Checks.due("just enough by the price", 0, dear(Scenes.withPurse(20)).open(0, 0, 1));
        Refusals.state("the dearest", () -> dear(new SensorBond()), y -> y.open(0, 0, 20));
    }

    private static SensorBond usedUp() {
        SensorBond x = new SensorBond();
        x.open(0, 0, 1);
        x.tell(0, 50);
        return x;
    }

    private static SensorBond dear(SensorBond x) {
        x.setPrice(0, 20);
        return x;
    }

    // ---- promise 9

    private static void challenge(Sentences promises) {
        promises.test(9, "A buyer challenges a reading.", () -> {
            SensorBond x = told(0);
            x.challenge(5, 0);
            Checks.due("the stake", 196, x.purse(5));
            Checks.due("the state", SensorBond.CHALLENGED, x.stateOf(0));
            Scenes.judge(x, 0, 99);
            Checks.due("it was this buyer: the stake, and a fourth of 4", 201, x.purse(5));
        });
        promises.test(9, BUYERS,
            () -> Refusals.indexRange(0, 5, Scenes::busy, (x, b) -> x.challenge(b, Scenes.FRESH_ONE)));
        promises.test(9, READINGS, () -> {
            Refusals.indexRange(0, 4, CallsSentencesTest::fiveFresh, (x, r) -> x.challenge(2, r));
            Refusals.index("none in a new object", SensorBond::new, x -> x.challenge(0, 0));
            Refusals.index("none behind the last", Scenes::full, x -> x.challenge(0, 80));
            Checks.due("the last", 3, Scenes.full().challenge(0, 79));
        });
        promises.test(9, "Returns how many neighbours its sensor has.", () -> {
            int[] due = {2, 3, 3, 2, 3, 4, 4, 3, 2, 3, 3, 2};
            for (int sensor = 0; sensor < 12; sensor++) {
                Checks.due("sensor " + sensor, due[sensor], told(sensor).challenge(0, 0));
            }
        });
        promises.test(9, "Throws `IndexOutOfBoundsException` if there is no such buyer or reading", () -> {
            Refusals.index("no buyer -1", Scenes::busy, x -> x.challenge(-1, Scenes.FRESH_ONE));
            Refusals.index("no buyer 6", Scenes::busy, x -> x.challenge(6, Scenes.FRESH_ONE));
            Refusals.index("no reading -1", Scenes::busy, x -> x.challenge(2, -1));
            Refusals.index("no reading 5", Scenes::busy, x -> x.challenge(2, Scenes.BUSY_READINGS));
        });
        promises.test(9, "Throws `IllegalStateException` if it is not FRESH, or the purse of the buyer is less than 4",
            CallsSentencesTest::refusedChallenges);
    }

    private static SensorBond fiveFresh() {
        SensorBond x = new SensorBond();
        for (int sensor = 0; sensor < 5; sensor++) {
            x.tell(sensor, 50);
        }
        return x;
    }

    private static void refusedChallenges() {
        Refusals.state("CHALLENGED", Scenes::busy, x -> x.challenge(3, Scenes.CHALLENGED_ONE));
        Refusals.state("CHALLENGED by the same", Scenes::busy, x -> x.challenge(2, Scenes.CHALLENGED_ONE));
        Refusals.state("STOOD", Scenes::busy, x -> x.challenge(3, Scenes.STOOD_ONE));
        Refusals.state("LIE", Scenes::busy, x -> x.challenge(3, Scenes.LIE_ONE));
        Refusals.state("LOST", Scenes::busy, x -> x.challenge(3, Scenes.LOST_ONE));
        Refusals.state("a purse of 3", () -> withReading(3), x -> x.challenge(0, 0));
        Refusals.state("a purse of 0", () -> withReading(0), x -> x.challenge(0, 0));
        Checks.due("a purse of 4", 2, withReading(4).challenge(0, 0));
    }

    private static SensorBond withReading(int purse) {
        SensorBond x = Scenes.withPurse(purse);
        x.tell(0, 50);
        return x;
    }

    // ---- promise 10

    private static void sample(Sentences promises) {
        int challenged = Scenes.CHALLENGED_ONE;
        promises.test(10, "A neighbour gives a sample for a challenged reading.", () -> {
            SensorBond x = Scenes.busy();
            x.sample(4, challenged, 0);
            Checks.due("the lower one of 0 and 40", 0, x.middle(challenged));
            Checks.due("a muted one can", 1, mutedSample());
        });
        promises.test(10, SENSORS, () -> {
            for (int sensor = 0; sensor < 12; sensor++) {
                int giver = sensor;
                SensorBond x = told(sensor < 4 ? sensor + 4 : sensor - 4);
                x.challenge(0, 0);
                Checks.due("sensor " + giver, SensorBond.CHALLENGED, x.sample(giver, 0, 0));
            }
            Refusals.noIndexBut(0, 11, Scenes::busy, (x, s) -> x.sample(s, challenged, 0));
        });
        promises.test(10, READINGS, () -> {
            Refusals.noIndexBut(0, Scenes.BUSY_READINGS - 1, Scenes::busy, (x, r) -> x.sample(4, r, 0));
            Refusals.index("none in a new object", SensorBond::new, x -> x.sample(0, 0, 0));
            SensorBond x = Scenes.full();
            x.challenge(0, 79);
            Checks.due("the last", SensorBond.CHALLENGED, x.sample(3, 79, 0));
            SensorBond y = told(0);
            y.challenge(0, 0);
            Checks.due("the first", SensorBond.CHALLENGED, y.sample(1, 0, 0));
        });
        promises.test(10, VALUES,
            () -> Refusals.argumentRange(0, 99, Scenes::busy, (x, value) -> x.sample(4, challenged, value)));
        promises.test(10, "Returns the state of the reading then.", CallsSentencesTest::statesOfSamples);
        promises.test(10, "Throws `IndexOutOfBoundsException` if there is no such sensor or reading", () -> {
            Refusals.index("no sensor -1", Scenes::busy, x -> x.sample(-1, challenged, 0));
            Refusals.index("no sensor 12", Scenes::busy, x -> x.sample(12, challenged, 0));
            Refusals.index("no reading -1", Scenes::busy, x -> x.sample(4, -1, 0));
            Refusals.index("no reading 5", Scenes::busy, x -> x.sample(4, Scenes.BUSY_READINGS, 0));
        });
        promises.test(10, BAD_VALUE, () -> {
            Refusals.argument("-1", Scenes::busy, x -> x.sample(4, challenged, -1));
            Refusals.argument("100", Scenes::busy, x -> x.sample(4, challenged, 100));
        });
        promises.test(10, "Throws `IllegalStateException` if it is not CHALLENGED, the sensor is no neighbour of its "
            + "sensor, or has given a sample for it", CallsSentencesTest::refusedSamples);
    }

    private static int mutedSample() {
        SensorBond x = Scenes.muted();
        int reading = x.tell(1, 50);
        x.challenge(0, reading);
        return x.sample(0, reading, 50);
    }

    private static void statesOfSamples() {
        SensorBond x = told(1);
        x.challenge(0, 0);
        Checks.due("one of three", SensorBond.CHALLENGED, x.sample(0, 0, 99));
        Checks.due("two of three", SensorBond.CHALLENGED, x.sample(2, 0, 50));
        Checks.due("the last one, near enough", SensorBond.STOOD, x.sample(5, 0, 55));
        SensorBond y = told(1);
        y.challenge(0, 0);
        y.sample(0, 0, 99);
        y.sample(2, 0, 50);
        Checks.due("the last one, too far", SensorBond.LIE, y.sample(5, 0, 56));
    }

    private static void refusedSamples() {
        Refusals.state("FRESH", Scenes::busy, x -> x.sample(2, Scenes.FRESH_ONE, 0));
        Refusals.state("STOOD", Scenes::busy, x -> x.sample(4, Scenes.STOOD_ONE, 0));
        Refusals.state("STOOD after a challenge", () -> judged(50), x -> x.sample(4, 0, 0));
        Refusals.state("LIE", () -> judged(0), x -> x.sample(4, 0, 0));
        Refusals.state("LIE, and has given one", Scenes::busy, x -> x.sample(0, Scenes.LIE_ONE, 0));
        Refusals.state("LOST", Scenes::busy, x -> x.sample(5, Scenes.LOST_ONE, 0));
        Refusals.state("the sensor itself", Scenes::busy, x -> x.sample(5, Scenes.CHALLENGED_ONE, 0));
        Refusals.state("askew", Scenes::busy, x -> x.sample(0, Scenes.CHALLENGED_ONE, 0));
        Refusals.state("two rows away", () -> doubted(1), x -> x.sample(9, 0, 0));
        Refusals.state("two columns away", () -> doubted(4), x -> x.sample(6, 0, 0));
        Refusals.state("from a row's end to the next row", () -> doubted(3), x -> x.sample(4, 0, 0));
        Refusals.state("from a row to the end of the one above", () -> doubted(8), x -> x.sample(7, 0, 0));
        Refusals.state("from a row's end to its other end", () -> doubted(0), x -> x.sample(3, 0, 0));
        Refusals.state("from the first row to the last", () -> doubted(0), x -> x.sample(8, 0, 0));
        Refusals.state("has given one", Scenes::busy, x -> x.sample(1, Scenes.CHALLENGED_ONE, 0));
        Refusals.state("has given the same", Scenes::busy, x -> x.sample(1, Scenes.CHALLENGED_ONE, 40));
    }

    private static SensorBond doubted(int sensor) {
        SensorBond x = told(sensor);
        x.challenge(0, 0);
        return x;
    }

    /** Judged by the sample of sensor 1 alone, for sensor 4 gave none in five ticks. */
    private static SensorBond judged(int sample) {
        SensorBond x = doubted(0);
        x.sample(1, 0, sample);
        x.advance(5);
        return x;
    }

    // ---- promise 11

    private static void advance(Sentences promises) {
        promises.test(11, "Lets ticks end.", () -> {
            SensorBond x = told(0);
            x.open(0, 1, 5);
            x.advance(4);
            Checks.due("four have ended", SensorBond.FRESH, x.stateOf(0));
            Checks.due("so the window is open", 5, x.aside(0, 1));
            x.advance(1);
            Checks.due("five have ended", SensorBond.STOOD, x.stateOf(0));
            Checks.due("so the window is closed", 0, x.aside(0, 1));
            String oneByOne = Story.of(() -> afterTicks(30, 1));
            Checks.due("thirty at once are as thirty", oneByOne, Story.of(() -> afterTicks(1, 30)));
        });
        promises.test(11, "- `ticks`: 1 to 100",
            () -> Refusals.argumentRange(1, 100, Scenes::busy, SensorBond::advance));
        promises.test(11, "Returns the tick then.", () -> {
            SensorBond x = new SensorBond();
            Checks.due("one", 1, x.advance(1));
            Checks.due("a hundred", 101, x.advance(100));
            Checks.due("as tick tells", 101, x.tick());
            Checks.due("the last", 10000, Scenes.atTick(9900).advance(100));
        });
        promises.test(11, BAD_TICKS, () -> {
            Refusals.argument("0", Scenes::busy, x -> x.advance(0));
            Refusals.argument("101", Scenes::busy, x -> x.advance(101));
            Refusals.argument("-1", Scenes::busy, x -> x.advance(-1));
        });
        promises.test(11, "Throws `IllegalStateException` if the tick would be above 10000", () -> {
            Refusals.state("10001, from the last", () -> Scenes.atTick(10000), x -> x.advance(1));
            Refusals.state("10001", () -> Scenes.atTick(9901), x -> x.advance(100));
            Refusals.state("10100", () -> Scenes.atTick(10000), x -> x.advance(100));
            Checks.due("10000", 10000, Scenes.atTick(9901).advance(99));
            SensorBond x = Scenes.atTick(10000);
            Checks.due("the last tick is one in which can be told", 0, x.tell(0, 50));
            Checks.due("and challenged", 2, x.challenge(0, 0));
            Checks.due("and judged", SensorBond.LIE, Scenes.judge(x, 0, 99));
        });
    }

    private static SensorBond afterTicks(int calls, int ticks) {
        SensorBond x = Scenes.busy();
        for (int i = 0; i < calls; i++) {
            x.advance(ticks);
        }
        return x;
    }
}
