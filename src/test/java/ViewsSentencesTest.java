import java.io.IOException;

/** A test of its own for each sentence of the promises 12 to 26: what there is. */
public final class ViewsSentencesTest {
    private static final String READINGS = "- `reading`: a reading";
    private static final String NO_READING = "Throws `IndexOutOfBoundsException` if there is no such reading";
    private static final String SENSORS = "- `sensor`: 0 to 11";
    private static final String NO_SENSOR = "Throws `IndexOutOfBoundsException` if there is no such sensor";
    private static final String BUYERS = "- `buyer`: 0 to 5";

    private ViewsSentencesTest() {
    }

    public static void main(String[] args) throws IOException {
        Sentences promises = Sentences.ofPromises("ViewsSentencesTest", 12, 26);
        promises.test(12, "Returns the tick.", ViewsSentencesTest::tick);
        promises.test(13, "Returns the number of readings.", ViewsSentencesTest::readings);
        stateOf(promises);
        parts(promises);
        users(promises);
        held(promises);
        middle(promises);
        textAt(promises);
        bond(promises);
        bondByCuts(promises);
        earned(promises);
        mark(promises);
        purse(promises);
        aside(promises);
        promises.test(26, "Returns what the house has.", ViewsSentencesTest::house);
        promises.close();
    }

    // ---- what the views have in common

    /** The sentences that tell which readings there are. */
    private static void readingsOf(Sentences promises, int promise, Refusals.CallWith view) {
        promises.test(promise, READINGS, () -> {
            Refusals.indexRange(0, Scenes.BUSY_READINGS - 1, Scenes::busy, view);
            Refusals.taken(0, 79, Scenes::full, view);
        });
        promises.test(promise, NO_READING, () -> noReading(view));
    }

    private static void noReading(Refusals.CallWith view) {
        Refusals.index("none in a new object", SensorBond::new, x -> view.on(x, 0));
        Refusals.index("none below the first", Scenes::busy, x -> view.on(x, -1));
        Refusals.index("none behind the last", Scenes::busy, x -> view.on(x, Scenes.BUSY_READINGS));
        Refusals.index("none behind the last of all", Scenes::full, x -> view.on(x, 80));
    }

    /** The sentences that tell which sensors there are. */
    private static void sensorsOf(Sentences promises, int promise, Refusals.CallWith view) {
        promises.test(promise, SENSORS, () -> Refusals.indexRange(0, 11, Scenes::busy, view));
        promises.test(promise, NO_SENSOR, () -> {
            Refusals.index("no -1", Scenes::busy, x -> view.on(x, -1));
            Refusals.index("no 12", Scenes::busy, x -> view.on(x, 12));
        });
    }

    // ---- the promises

    private static void tick() {
        SensorBond x = new SensorBond();
        Checks.due("the first", 0, x.tick());
        x.tell(0, 0);
        x.open(0, 0, 20);
        Checks.due("other calls end none", 0, x.tick());
        x.advance(1);
        Checks.due("the second", 1, x.tick());
        x.advance(100);
        Checks.due("a hundred later", 101, x.tick());
        Checks.badArgument("refused", () -> x.advance(101));
        Checks.due("as before", 101, x.tick());
        SensorBond last = Scenes.atTick(10000);
        Checks.due("the last", 10000, last.tick());
        Checks.badState("refused", () -> last.advance(1));
        Checks.due("still the last", 10000, last.tick());
    }

    private static void readings() {
        SensorBond x = new SensorBond();
        Checks.due("none", 0, x.readings());
        x.tell(0, 0);
        Checks.due("one", 1, x.readings());
        Checks.badState("refused", () -> x.tell(0, 0));
        Checks.badArgument("refused", () -> x.tell(1, 100));
        Checks.due("still one", 1, x.readings());
        x.setLoss(0, 2);
        x.tell(1, 0);
        Checks.due("LOST ones too", 2, x.readings());
        x.advance(100);
        Checks.due("old ones too", 2, x.readings());
        SensorBond full = Scenes.full();
        Checks.due("eighty", 80, full.readings());
        Checks.badState("refused", () -> full.tell(8, 0));
        Checks.due("still eighty", 80, full.readings());
    }

    private static void stateOf(Sentences promises) {
        promises.test(14, "Returns the state of a reading.", () -> {
            SensorBond x = new SensorBond();
            x.tell(0, 50);
            Checks.due("told", SensorBond.FRESH, x.stateOf(0));
            x.challenge(0, 0);
            Checks.due("challenged", SensorBond.CHALLENGED, x.stateOf(0));
            x.sample(1, 0, 50);
            Checks.due("sampled", SensorBond.CHALLENGED, x.stateOf(0));
            x.sample(4, 0, 99);
            Checks.due("judged", SensorBond.STOOD, x.stateOf(0));
            x.advance(100);
            Checks.due("for ever", SensorBond.STOOD, x.stateOf(0));
        });
        promises.test(14, "Returns FRESH, CHALLENGED, STOOD, LIE or LOST.", () -> {
            SensorBond x = Scenes.busy();
            Checks.due("FRESH", 0, x.stateOf(Scenes.FRESH_ONE));
            Checks.due("CHALLENGED", 1, x.stateOf(Scenes.CHALLENGED_ONE));
            Checks.due("STOOD", 2, x.stateOf(Scenes.STOOD_ONE));
            Checks.due("LIE", 3, x.stateOf(Scenes.LIE_ONE));
            Checks.due("LOST", 4, x.stateOf(Scenes.LOST_ONE));
        });
        readingsOf(promises, 14, SensorBond::stateOf);
    }

    private static void parts(Sentences promises) {
        promises.test(15, "Returns how many parts of a reading were behind the hub.", () -> {
            SensorBond x = new SensorBond();
            x.setLoss(0, 4);
            x.tell(0, 0);
            Checks.due("what the hub itself loses is not", 3, x.parts(0));
            x.setLoss(1, 2);
            x.tell(1, 0);
            Checks.due("nor what does not come to it", 2, x.parts(1));
            x.setLoss(0, 0);
            x.advance(9);
            Checks.due("for ever", 3, x.parts(0));
        });
        promises.test(15, "Returns 0 to 4.", () -> {
            SensorBond x = Scenes.withAllParts();
            for (int reading = 0; reading < Scenes.PARTS.length; reading++) {
                Checks.due("parts", Scenes.PARTS[reading], x.parts(reading));
            }
        });
        readingsOf(promises, 15, SensorBond::parts);
    }

    private static void users(Sentences promises) {
        promises.test(16, "Returns how many buyers used a reading.", () -> {
            SensorBond x = new SensorBond();
            x.open(0, 0, 1);
            x.open(5, 0, 1);
            x.open(4, 1, 1);
            x.tell(0, 50);
            x.open(1, 0, 1);
            Checks.due("those with a window on its sensor, opened ahead of it", 2, x.users(0));
            x.challenge(3, 0);
            Checks.due("the challenger is none", 2, x.users(0));
            x.advance(9);
            Checks.due("for ever", 2, x.users(0));
            x.open(2, 0, 1);
            Checks.due("a LIE as well", 1, x.users(Scenes.lie(x, 0)));
            x.setLoss(0, 2);
            Checks.due("nobody a LOST one", 0, x.users(x.tell(1, 50)));
        });
        promises.test(16, "Returns how many.", () -> {
            for (int users = 0; users <= 6; users++) {
                SensorBond x = new SensorBond();
                for (int buyer = 0; buyer < users; buyer++) {
                    x.open(buyer, 3, 1);
                }
                Checks.due("of six", users, x.users(x.tell(3, 50)));
            }
        });
        readingsOf(promises, 16, SensorBond::users);
    }

    private static void held(Sentences promises) {
        promises.test(17, "Returns what is held for a reading.", () -> {
            SensorBond x = new SensorBond();
            x.open(0, 0, 1);
            x.tell(0, 50);
            x.tell(1, 50);
            Checks.due("for one that is used", 1, x.held(0));
            Checks.due("for one that is not", 0, x.held(1));
            x.advance(4);
            Checks.due("until it has STOOD", 1, x.held(0));
            x.advance(1);
            Checks.due("then nothing", 0, x.held(0));
            x.open(0, 0, 1);
            Checks.due("nothing for a LIE", 0, x.held(Scenes.lie(x, 1)));
        });
        promises.test(17, "Returns the sum, the stake not counted.", () -> {
            SensorBond x = new SensorBond();
            int sum = 0;
            for (int buyer = 0; buyer < 6; buyer++) {
                x.setPrice(0, 20 - buyer);
                x.open(buyer, 0, 2);
                sum += 20 - buyer;
            }
            x.tell(0, 50);
            Checks.due("the price of each", sum, x.held(0));
            x.challenge(0, 0);
            Checks.due("no stake", sum, x.held(0));
            x.tell(1, 50);
            x.challenge(0, 1);
            Checks.due("no stake alone", 0, x.held(1));
        });
        readingsOf(promises, 17, SensorBond::held);
    }

    private static void middle(Sentences promises) {
        promises.test(18, "Returns the middle of the samples for a reading.", () -> {
            SensorBond x = Scenes.busy();
            Checks.due("of 40", 40, x.middle(Scenes.CHALLENGED_ONE));
            x.sample(4, Scenes.CHALLENGED_ONE, 41);
            Checks.due("of 40 and 41", 40, x.middle(Scenes.CHALLENGED_ONE));
            x.sample(6, Scenes.CHALLENGED_ONE, 99);
            Checks.due("of 40, 41 and 99", 41, x.middle(Scenes.CHALLENGED_ONE));
            x.sample(9, Scenes.CHALLENGED_ONE, 0);
            Checks.due("of 0, 40, 41 and 99", 40, x.middle(Scenes.CHALLENGED_ONE));
            x.advance(9);
            Checks.due("for ever", 40, x.middle(Scenes.CHALLENGED_ONE));
        });
        promises.test(18, "Returns the middle; NONE if there are no samples.", () -> {
            SensorBond x = Scenes.busy();
            Checks.due("FRESH", SensorBond.NONE, x.middle(Scenes.FRESH_ONE));
            Checks.due("STOOD, never challenged", SensorBond.NONE, x.middle(Scenes.STOOD_ONE));
            Checks.due("LOST", SensorBond.NONE, x.middle(Scenes.LOST_ONE));
            x.challenge(3, Scenes.FRESH_ONE);
            Checks.due("CHALLENGED", SensorBond.NONE, x.middle(Scenes.FRESH_ONE));
            x.advance(5);
            Checks.due("STOOD without samples", SensorBond.NONE, x.middle(Scenes.FRESH_ONE));
            SensorBond y = new SensorBond();
            y.tell(0, 0);
            y.challenge(0, 0);
            y.sample(1, 0, 0);
            Checks.due("a sample of 0 is one", 0, y.middle(0));
        });
        readingsOf(promises, 18, SensorBond::middle);
    }

    private static void textAt(Sentences promises) {
        promises.test(19, "Returns a sign of the text of a reading.", () -> {
            SensorBond x = new SensorBond();
            x.tell(11, 10);
            Checks.due("letter", 'l', x.textAt(0, 0));
            Checks.due("tens", '1', x.textAt(0, 1));
            Checks.due("ones", '0', x.textAt(0, 2));
            Checks.due("state", '.', x.textAt(0, 3));
            Checks.due("the last reading of all", "h79.", Views.text(Scenes.full(), 79));
        });
        promises.test(19, "- `place`: from 0", () -> {
            Refusals.taken(0, 9, Scenes::busy, (x, place) -> x.textAt(Scenes.STOOD_ONE, place));
            Refusals.index("no -1", Scenes::busy, x -> x.textAt(Scenes.STOOD_ONE, -1));
            Refusals.index("nor lower", Scenes::busy, x -> x.textAt(Scenes.STOOD_ONE, Integer.MIN_VALUE));
        });
        promises.test(19, "Returns the sign, as the number of its character; NONE behind the last one.", () -> {
            SensorBond x = Scenes.busy();
            Checks.due("of a short one: the last", 45, x.textAt(Scenes.LIE_ONE, 2));
            Checks.due("of a short one: behind", SensorBond.NONE, x.textAt(Scenes.LIE_ONE, 3));
            Checks.due("of a long one: the first", 97, x.textAt(Scenes.STOOD_ONE, 0));
            Checks.due("of a long one: the last", 43, x.textAt(Scenes.STOOD_ONE, 3));
            Checks.due("of a long one: behind", SensorBond.NONE, x.textAt(Scenes.STOOD_ONE, 4));
            Checks.due("far behind", SensorBond.NONE, x.textAt(Scenes.STOOD_ONE, Integer.MAX_VALUE));
            Checks.due("all of FRESH", "g30.", Views.text(x, Scenes.FRESH_ONE));
            Checks.due("all of CHALLENGED", "f20?", Views.text(x, Scenes.CHALLENGED_ONE));
            Checks.due("all of STOOD", "a50+", Views.text(x, Scenes.STOOD_ONE));
            Checks.due("all of LIE", "b0-", Views.text(x, Scenes.LIE_ONE));
            Checks.due("all of LOST", "j7x", Views.text(x, Scenes.LOST_ONE));
        });
        promises.test(19, READINGS,
            () -> Refusals.indexRange(0, Scenes.BUSY_READINGS - 1, Scenes::busy, (x, r) -> x.textAt(r, 0)));
        promises.test(19, "Throws `IndexOutOfBoundsException` if there is no such reading, or place is below 0", () -> {
            noReading((x, r) -> x.textAt(r, 0));
            noReading((x, r) -> x.textAt(r, -1));
            noReading((x, r) -> x.textAt(r, Integer.MAX_VALUE));
            Refusals.index("the place -1", Scenes::busy, x -> x.textAt(Scenes.FRESH_ONE, -1));
        });
    }

    private static void bond(Sentences promises) {
        promises.test(20, "Returns the bond of a sensor.", () -> {
            SensorBond x = Scenes.busy();
            for (int sensor = 0; sensor < 12; sensor++) {
                Checks.due("bond of " + sensor, sensor == 1 ? 68 : 100, x.bond(sensor));
            }
        });
        promises.test(20, "Returns the bond.", () -> {
            SensorBond x = Scenes.withEarned(20);
            x.topUp(0, 20);
            Checks.due("more than at first", 120, x.bond(0));
            x.setPrice(0, 20);
            Scenes.lie(x, 0);
            Checks.due("less", 40, x.bond(0));
            x.advance(1);
            Scenes.lie(x, 0);
            Checks.due("nothing, and not below", 0, x.bond(0));
        });
        sensorsOf(promises, 20, SensorBond::bond);
    }

    private static void bondByCuts(Sentences promises) {
        promises.test(21, "Returns the same, from all that was put to it and all cuts, one behind the other.", () -> {
            SensorBond x = Scenes.withEarned(20);
            Checks.due("nothing put, nothing cut", 100, x.bondByCuts(0));
            x.topUp(0, 1);
            Checks.due("put", 101, x.bondByCuts(0));
            Scenes.lie(x, 0);
            Checks.due("cut", 97, x.bondByCuts(0));
            x.topUp(0, 19);
            Checks.due("put behind a cut", 116, x.bondByCuts(0));
            x.advance(1);
            x.setPrice(0, 20);
            Scenes.lie(x, 0);
            Checks.due("cut again", 36, x.bondByCuts(0));
            Checks.due("the same", x.bond(0), x.bondByCuts(0));
        });
        promises.test(21, "Returns the bond.", () -> {
            SensorBond x = Scenes.muted();
            Checks.due("of a muted one", 16, x.bondByCuts(0));
            SensorBond y = new SensorBond();
            y.setPrice(0, 20);
            y.open(1, 0, 1);
            Scenes.lie(y, 0);
            Checks.due("nothing, and not below", 0, y.bondByCuts(0));
            SensorBond z = Scenes.busy();
            for (int sensor = 0; sensor < 12; sensor++) {
                Checks.due("bond of " + sensor, sensor == 1 ? 68 : 100, z.bondByCuts(sensor));
            }
        });
        sensorsOf(promises, 21, SensorBond::bondByCuts);
    }

    private static void earned(Sentences promises) {
        promises.test(22, "Returns the purse of a sensor.", () -> {
            SensorBond x = Scenes.busy();
            for (int sensor = 0; sensor < 12; sensor++) {
                Checks.due("purse of " + sensor, sensor == 0 ? 3 : 0, x.earned(sensor));
            }
        });
        promises.test(22, "Returns the purse.", () -> {
            SensorBond x = Scenes.withEarned(20);
            Checks.due("what it was paid", 20, x.earned(0));
            x.topUp(0, 19);
            Checks.due("less what it put", 1, x.earned(0));
            x.topUp(0, 1);
            Checks.due("nothing", 0, x.earned(0));
            x.challenge(0, x.tell(0, 50));
            Checks.due("no stake yet", 0, x.earned(0));
            x.advance(5);
            Checks.due("a stake", 4, x.earned(0));
            Scenes.lie(x, 0);
            Checks.due("a cut is not from the purse", 4, x.earned(0));
        });
        sensorsOf(promises, 22, SensorBond::earned);
    }

    private static void mark(Sentences promises) {
        promises.test(23, "Returns the mark of a sensor: how many of its readings have STOOD, less 3 times how many "
            + "are LIES.", () -> {
                SensorBond x = new SensorBond();
                Checks.due("none", 0, x.mark(0));
                x.tell(0, 50);
                x.tell(1, 50);
                Checks.due("FRESH", 0, x.mark(0));
                x.challenge(0, 0);
                Checks.due("CHALLENGED", 0, x.mark(0));
                x.advance(5);
                Checks.due("one STOOD", 1, x.mark(0));
                Checks.due("another sensor", 1, x.mark(1));
                x.setLoss(0, 2);
                x.tell(0, 50);
                x.advance(5);
                Checks.due("LOST", 1, x.mark(0));
            });
        promises.test(23, "Returns the mark, perhaps below 0.", () -> {
            SensorBond x = new SensorBond();
            Scenes.lie(x, 0);
            Checks.due("one LIE", -3, x.mark(0));
            for (int stood = 1; stood <= 4; stood++) {
                x.advance(1);
                x.tell(0, 50);
            }
            x.advance(5);
            Checks.due("one LIE and four that STOOD", 1, x.mark(0));
            Scenes.lie(x, 0);
            Checks.due("two LIES and four that STOOD", -2, x.mark(0));
            SensorBond low = new SensorBond();
            for (int lies = 1; lies <= 20; lies++) {
                Scenes.lie(low, 0);
                low.advance(1);
                Checks.due(lies + " LIES", -3 * lies, low.mark(0));
            }
        });
        sensorsOf(promises, 23, SensorBond::mark);
    }

    private static void purse(Sentences promises) {
        promises.test(24, "Returns the purse of a buyer.", () -> {
            SensorBond x = Scenes.busy();
            // windows; a fourth of a cut of 32; a stake; a price that came back, and a half of that cut; what was used
            int[] due = {200 - 12, 200 + 8 - 20, 200 - 4, 200 - 8, 200 - 32 + 4 + 16, 200 - 3};
            for (int buyer = 0; buyer < 6; buyer++) {
                Checks.due("purse of " + buyer, due[buyer], x.purse(buyer));
            }
        });
        promises.test(24, "Returns the purse, without what is set aside or held.", () -> {
            SensorBond x = new SensorBond();
            x.setPrice(0, 10);
            x.open(0, 0, 20);
            Checks.due("all is set aside", 0, x.purse(0));
            x.tell(0, 50);
            Checks.due("some of it is held", 0, x.purse(0));
            x.advance(19);
            Checks.due("until the last tick ends", 0, x.purse(0));
            x.advance(1);
            Checks.due("what is left is back", 190, x.purse(0));
            x.tell(1, 50);
            x.challenge(0, 1);
            Checks.due("nor the stake", 186, x.purse(0));
        });
        promises.test(24, BUYERS, () -> Refusals.indexRange(0, 5, Scenes::busy, SensorBond::purse));
        promises.test(24, "Throws `IndexOutOfBoundsException` if there is no such buyer", () -> {
            Refusals.index("no -1", Scenes::busy, x -> x.purse(-1));
            Refusals.index("no 6", Scenes::busy, x -> x.purse(6));
        });
    }

    private static void aside(Sentences promises) {
        promises.test(25, "Returns what a buyer has set aside for a window on a sensor, and was not used.", () -> {
            SensorBond x = new SensorBond();
            x.setPrice(11, 10);
            x.open(5, 11, 3);
            Checks.due("all", 30, x.aside(5, 11));
            x.tell(11, 50);
            Checks.due("one used", 20, x.aside(5, 11));
            x.advance(1);
            Checks.due("a tick without a use in the next one", 20, x.aside(5, 11));
            x.tell(11, 50);
            x.advance(1);
            x.tell(11, 50);
            Checks.due("all used", 0, x.aside(5, 11));
        });
        promises.test(25, "Returns the sum; 0 without a window.", () -> {
            SensorBond x = new SensorBond();
            x.open(0, 0, 20);
            x.open(1, 1, 1);
            for (int buyer = 0; buyer < 6; buyer++) {
                for (int sensor = 0; sensor < 12; sensor++) {
                    int due = buyer == 0 && sensor == 0 ? 20 : buyer == 1 && sensor == 1 ? 1 : 0;
                    Checks.due("of " + buyer + " on " + sensor, due, x.aside(buyer, sensor));
                }
            }
            x.advance(19);
            Checks.due("in the last tick", 20, x.aside(0, 0));
            x.advance(1);
            Checks.due("closed", 0, x.aside(0, 0));
        });
        promises.test(25, BUYERS, () -> Refusals.indexRange(0, 5, Scenes::busy, (x, b) -> x.aside(b, 0)));
        promises.test(25, SENSORS, () -> Refusals.indexRange(0, 11, Scenes::busy, (x, s) -> x.aside(0, s)));
        promises.test(25, "Throws `IndexOutOfBoundsException` if there is no such buyer or sensor", () -> {
            Refusals.index("no buyer -1", Scenes::busy, x -> x.aside(-1, 0));
            Refusals.index("no buyer 6", Scenes::busy, x -> x.aside(6, 0));
            Refusals.index("no sensor -1", Scenes::busy, x -> x.aside(0, -1));
            Refusals.index("no sensor 12", Scenes::busy, x -> x.aside(0, 12));
            Refusals.index("neither", Scenes::busy, x -> x.aside(6, 12));
        });
    }

    private static void house() {
        SensorBond x = new SensorBond();
        Checks.due("nothing at first", 0, x.house());
        Scenes.lie(x, 0);
        Checks.due("three of a cut of 4", 3, x.house());
        x.advance(1);
        x.open(1, 0, 1);
        Scenes.lie(x, 0);
        Checks.due("two more of a cut of 8", 5, x.house());
        x.challenge(0, x.tell(3, 1));
        x.advance(50);
        Checks.due("nothing of what has STOOD", 5, x.house());
    }
}
